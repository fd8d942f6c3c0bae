section
-- ===== PART A: goes FIRST, ahead of the names: the tables' words, and 'selects' of the private methods out of them =====
/-- a private method of a class that the tables say can be made, by its rows of tables_1 -/
def lw_okq (q : MethodName × Nat) : Prop := (q.1.cls ≠ "java/lang/invoke/MethodHandle" ∧ q.1.cls ≠ "java/lang/invoke/VarHandle") ∧ Cond.instantiable q.1.cls q.2 ∈ tables_1 ∧ Cond.privateMethod q.1 ∈ tables_1 ∧ Cond.instanceMethod q.1 ∈ tables_1
theorem lw_p0 : lw_okq (⟨"StormHireModel", "record", "()V"⟩, 12) := ⟨⟨by decide +kernel, by decide +kernel⟩, List.mem_of_getElem? (i := 552) (by decide +kernel), List.mem_of_getElem? (i := 603) (by decide +kernel), List.mem_of_getElem? (i := 604) (by decide +kernel)⟩
theorem lw_p1 : lw_okq (⟨"StormHireModel", "toSet", "(III)V"⟩, 12) := ⟨⟨by decide +kernel, by decide +kernel⟩, List.mem_of_getElem? (i := 552) (by decide +kernel), List.mem_of_getElem? (i := 619) (by decide +kernel), List.mem_of_getElem? (i := 620) (by decide +kernel)⟩
theorem lw_p2 : lw_okq (⟨"StormHireModel", "noSet", "(I)Z"⟩, 12) := ⟨⟨by decide +kernel, by decide +kernel⟩, List.mem_of_getElem? (i := 552) (by decide +kernel), List.mem_of_getElem? (i := 627) (by decide +kernel), List.mem_of_getElem? (i := 628) (by decide +kernel)⟩
theorem lw_p3 : lw_okq (⟨"StormHireModel", "ofSet", "(II)I"⟩, 12) := ⟨⟨by decide +kernel, by decide +kernel⟩, List.mem_of_getElem? (i := 552) (by decide +kernel), List.mem_of_getElem? (i := 631) (by decide +kernel), List.mem_of_getElem? (i := 632) (by decide +kernel)⟩
theorem lw_p4 : lw_okq (⟨"StormHireModel", "roomIn", "(I)I"⟩, 12) := ⟨⟨by decide +kernel, by decide +kernel⟩, List.mem_of_getElem? (i := 552) (by decide +kernel), List.mem_of_getElem? (i := 635) (by decide +kernel), List.mem_of_getElem? (i := 636) (by decide +kernel)⟩
theorem lw_p5 : lw_okq (⟨"StormHireModel", "fills", "(II)V"⟩, 12) := ⟨⟨by decide +kernel, by decide +kernel⟩, List.mem_of_getElem? (i := 552) (by decide +kernel), List.mem_of_getElem? (i := 642) (by decide +kernel), List.mem_of_getElem? (i := 643) (by decide +kernel)⟩
theorem lw_p6 : lw_okq (⟨"StormHireModel", "areHours", "(II)Z"⟩, 12) := ⟨⟨by decide +kernel, by decide +kernel⟩, List.mem_of_getElem? (i := 552) (by decide +kernel), List.mem_of_getElem? (i := 650) (by decide +kernel), List.mem_of_getElem? (i := 651) (by decide +kernel)⟩
theorem lw_p7 : lw_okq (⟨"StormHireModel", "adds", "(IIII)I"⟩, 12) := ⟨⟨by decide +kernel, by decide +kernel⟩, List.mem_of_getElem? (i := 552) (by decide +kernel), List.mem_of_getElem? (i := 654) (by decide +kernel), List.mem_of_getElem? (i := 655) (by decide +kernel)⟩
theorem lw_p8 : lw_okq (⟨"StormHireModel", "toSite", "(III)V"⟩, 12) := ⟨⟨by decide +kernel, by decide +kernel⟩, List.mem_of_getElem? (i := 552) (by decide +kernel), List.mem_of_getElem? (i := 658) (by decide +kernel), List.mem_of_getElem? (i := 659) (by decide +kernel)⟩
theorem lw_p9 : lw_okq (⟨"StormHireModel", "noSite", "(I)Z"⟩, 12) := ⟨⟨by decide +kernel, by decide +kernel⟩, List.mem_of_getElem? (i := 552) (by decide +kernel), List.mem_of_getElem? (i := 666) (by decide +kernel), List.mem_of_getElem? (i := 667) (by decide +kernel)⟩
theorem lw_p10 : lw_okq (⟨"StormHireModel", "setAt", "(I)I"⟩, 12) := ⟨⟨by decide +kernel, by decide +kernel⟩, List.mem_of_getElem? (i := 552) (by decide +kernel), List.mem_of_getElem? (i := 670) (by decide +kernel), List.mem_of_getElem? (i := 671) (by decide +kernel)⟩
theorem lw_p11 : lw_okq (⟨"StormHireModel", "ofSite", "(II)I"⟩, 12) := ⟨⟨by decide +kernel, by decide +kernel⟩, List.mem_of_getElem? (i := 552) (by decide +kernel), List.mem_of_getElem? (i := 674) (by decide +kernel), List.mem_of_getElem? (i := 675) (by decide +kernel)⟩
theorem lw_p12 : lw_okq (⟨"StormHireModel", "fits", "(II)Z"⟩, 12) := ⟨⟨by decide +kernel, by decide +kernel⟩, List.mem_of_getElem? (i := 552) (by decide +kernel), List.mem_of_getElem? (i := 678) (by decide +kernel), List.mem_of_getElem? (i := 679) (by decide +kernel)⟩
theorem lw_p13 : lw_okq (⟨"StormHireModel", "comes", "(II)V"⟩, 12) := ⟨⟨by decide +kernel, by decide +kernel⟩, List.mem_of_getElem? (i := 552) (by decide +kernel), List.mem_of_getElem? (i := 682) (by decide +kernel), List.mem_of_getElem? (i := 683) (by decide +kernel)⟩
theorem lw_p14 : lw_okq (⟨"StormHireModel", "inYard", "()I"⟩, 12) := ⟨⟨by decide +kernel, by decide +kernel⟩, List.mem_of_getElem? (i := 552) (by decide +kernel), List.mem_of_getElem? (i := 686) (by decide +kernel), List.mem_of_getElem? (i := 687) (by decide +kernel)⟩
theorem lw_p15 : lw_okq (⟨"StormHireModel", "goesBack", "(I)V"⟩, 12) := ⟨⟨by decide +kernel, by decide +kernel⟩, List.mem_of_getElem? (i := 552) (by decide +kernel), List.mem_of_getElem? (i := 694) (by decide +kernel), List.mem_of_getElem? (i := 695) (by decide +kernel)⟩
def lw_privs_1 : List (MethodName × Nat) := [(⟨"StormHireModel", "record", "()V"⟩, 12), (⟨"StormHireModel", "toSet", "(III)V"⟩, 12), (⟨"StormHireModel", "noSet", "(I)Z"⟩, 12), (⟨"StormHireModel", "ofSet", "(II)I"⟩, 12), (⟨"StormHireModel", "roomIn", "(I)I"⟩, 12), (⟨"StormHireModel", "fills", "(II)V"⟩, 12), (⟨"StormHireModel", "areHours", "(II)Z"⟩, 12), (⟨"StormHireModel", "adds", "(IIII)I"⟩, 12), (⟨"StormHireModel", "toSite", "(III)V"⟩, 12), (⟨"StormHireModel", "noSite", "(I)Z"⟩, 12), (⟨"StormHireModel", "setAt", "(I)I"⟩, 12), (⟨"StormHireModel", "ofSite", "(II)I"⟩, 12), (⟨"StormHireModel", "fits", "(II)Z"⟩, 12), (⟨"StormHireModel", "comes", "(II)V"⟩, 12), (⟨"StormHireModel", "inYard", "()I"⟩, 12), (⟨"StormHireModel", "goesBack", "(I)V"⟩, 12)]
theorem lw_r1 : ∀ q ∈ lw_privs_1, lw_okq q := List.forall_mem_cons.mpr ⟨lw_p0, List.forall_mem_cons.mpr ⟨lw_p1, List.forall_mem_cons.mpr ⟨lw_p2, List.forall_mem_cons.mpr ⟨lw_p3, List.forall_mem_cons.mpr ⟨lw_p4, List.forall_mem_cons.mpr ⟨lw_p5, List.forall_mem_cons.mpr ⟨lw_p6, List.forall_mem_cons.mpr ⟨lw_p7, List.forall_mem_cons.mpr ⟨lw_p8, List.forall_mem_cons.mpr ⟨lw_p9, List.forall_mem_cons.mpr ⟨lw_p10, List.forall_mem_cons.mpr ⟨lw_p11, List.forall_mem_cons.mpr ⟨lw_p12, List.forall_mem_cons.mpr ⟨lw_p13, List.forall_mem_cons.mpr ⟨lw_p14, List.forall_mem_cons.mpr ⟨lw_p15, fun _ h => absurd h List.not_mem_nil⟩⟩⟩⟩⟩⟩⟩⟩⟩⟩⟩⟩⟩⟩⟩⟩
theorem lw_p16 : lw_okq (⟨"StormHireModel", "isOpen", "(I)Z"⟩, 12) := ⟨⟨by decide +kernel, by decide +kernel⟩, List.mem_of_getElem? (i := 552) (by decide +kernel), List.mem_of_getElem? (i := 702) (by decide +kernel), List.mem_of_getElem? (i := 703) (by decide +kernel)⟩
theorem lw_p17 : lw_okq (⟨"StormHireModel", "wants", "(I)Z"⟩, 12) := ⟨⟨by decide +kernel, by decide +kernel⟩, List.mem_of_getElem? (i := 552) (by decide +kernel), List.mem_of_getElem? (i := 706) (by decide +kernel), List.mem_of_getElem? (i := 707) (by decide +kernel)⟩
theorem lw_p18 : lw_okq (⟨"StormHireModel", "yardFor", "(I)I"⟩, 12) := ⟨⟨by decide +kernel, by decide +kernel⟩, List.mem_of_getElem? (i := 552) (by decide +kernel), List.mem_of_getElem? (i := 710) (by decide +kernel), List.mem_of_getElem? (i := 711) (by decide +kernel)⟩
theorem lw_p19 : lw_okq (⟨"StormHireModel", "needyAt", "(I)I"⟩, 12) := ⟨⟨by decide +kernel, by decide +kernel⟩, List.mem_of_getElem? (i := 552) (by decide +kernel), List.mem_of_getElem? (i := 714) (by decide +kernel), List.mem_of_getElem? (i := 715) (by decide +kernel)⟩
theorem lw_p20 : lw_okq (⟨"StormHireModel", "isNeedier", "(II)Z"⟩, 12) := ⟨⟨by decide +kernel, by decide +kernel⟩, List.mem_of_getElem? (i := 552) (by decide +kernel), List.mem_of_getElem? (i := 718) (by decide +kernel), List.mem_of_getElem? (i := 719) (by decide +kernel)⟩
theorem lw_p21 : lw_okq (⟨"StormHireModel", "partnerOf", "(I)I"⟩, 12) := ⟨⟨by decide +kernel, by decide +kernel⟩, List.mem_of_getElem? (i := 552) (by decide +kernel), List.mem_of_getElem? (i := 726) (by decide +kernel), List.mem_of_getElem? (i := 727) (by decide +kernel)⟩
theorem lw_p22 : lw_okq (⟨"StormHireModel", "thirstyAt", "(I)I"⟩, 12) := ⟨⟨by decide +kernel, by decide +kernel⟩, List.mem_of_getElem? (i := 552) (by decide +kernel), List.mem_of_getElem? (i := 734) (by decide +kernel), List.mem_of_getElem? (i := 735) (by decide +kernel)⟩
theorem lw_p23 : lw_okq (⟨"StormHireModel", "hoursLeft", "(I)I"⟩, 12) := ⟨⟨by decide +kernel, by decide +kernel⟩, List.mem_of_getElem? (i := 552) (by decide +kernel), List.mem_of_getElem? (i := 738) (by decide +kernel), List.mem_of_getElem? (i := 739) (by decide +kernel)⟩
theorem lw_p24 : lw_okq (⟨"StormHireModel", "goesOnFor", "(I)I"⟩, 12) := ⟨⟨by decide +kernel, by decide +kernel⟩, List.mem_of_getElem? (i := 552) (by decide +kernel), List.mem_of_getElem? (i := 746) (by decide +kernel), List.mem_of_getElem? (i := 747) (by decide +kernel)⟩
theorem lw_p25 : lw_okq (⟨"StormHireModel", "goesOn", "()I"⟩, 12) := ⟨⟨by decide +kernel, by decide +kernel⟩, List.mem_of_getElem? (i := 552) (by decide +kernel), List.mem_of_getElem? (i := 750) (by decide +kernel), List.mem_of_getElem? (i := 751) (by decide +kernel)⟩
theorem lw_p26 : lw_okq (⟨"StormHireModel", "against", "(I)I"⟩, 12) := ⟨⟨by decide +kernel, by decide +kernel⟩, List.mem_of_getElem? (i := 552) (by decide +kernel), List.mem_of_getElem? (i := 754) (by decide +kernel), List.mem_of_getElem? (i := 755) (by decide +kernel)⟩
theorem lw_p27 : lw_okq (⟨"StormHireModel", "isLit", "(I)V"⟩, 12) := ⟨⟨by decide +kernel, by decide +kernel⟩, List.mem_of_getElem? (i := 552) (by decide +kernel), List.mem_of_getElem? (i := 758) (by decide +kernel), List.mem_of_getElem? (i := 759) (by decide +kernel)⟩
theorem lw_p28 : lw_okq (⟨"StormHireModel", "isDark", "(II)V"⟩, 12) := ⟨⟨by decide +kernel, by decide +kernel⟩, List.mem_of_getElem? (i := 552) (by decide +kernel), List.mem_of_getElem? (i := 762) (by decide +kernel), List.mem_of_getElem? (i := 763) (by decide +kernel)⟩
theorem lw_p29 : lw_okq (⟨"StormHireModel", "readsSite", "()Z"⟩, 12) := ⟨⟨by decide +kernel, by decide +kernel⟩, List.mem_of_getElem? (i := 552) (by decide +kernel), List.mem_of_getElem? (i := 778) (by decide +kernel), List.mem_of_getElem? (i := 779) (by decide +kernel)⟩
theorem lw_p30 : lw_okq (⟨"StormHireModel", "number", "(II)I"⟩, 12) := ⟨⟨by decide +kernel, by decide +kernel⟩, List.mem_of_getElem? (i := 552) (by decide +kernel), List.mem_of_getElem? (i := 782) (by decide +kernel), List.mem_of_getElem? (i := 783) (by decide +kernel)⟩
theorem lw_p31 : lw_okq (⟨"StormHireModel", "takes", "(C)Z"⟩, 12) := ⟨⟨by decide +kernel, by decide +kernel⟩, List.mem_of_getElem? (i := 552) (by decide +kernel), List.mem_of_getElem? (i := 786) (by decide +kernel), List.mem_of_getElem? (i := 787) (by decide +kernel)⟩
def lw_privs_2 : List (MethodName × Nat) := [(⟨"StormHireModel", "isOpen", "(I)Z"⟩, 12), (⟨"StormHireModel", "wants", "(I)Z"⟩, 12), (⟨"StormHireModel", "yardFor", "(I)I"⟩, 12), (⟨"StormHireModel", "needyAt", "(I)I"⟩, 12), (⟨"StormHireModel", "isNeedier", "(II)Z"⟩, 12), (⟨"StormHireModel", "partnerOf", "(I)I"⟩, 12), (⟨"StormHireModel", "thirstyAt", "(I)I"⟩, 12), (⟨"StormHireModel", "hoursLeft", "(I)I"⟩, 12), (⟨"StormHireModel", "goesOnFor", "(I)I"⟩, 12), (⟨"StormHireModel", "goesOn", "()I"⟩, 12), (⟨"StormHireModel", "against", "(I)I"⟩, 12), (⟨"StormHireModel", "isLit", "(I)V"⟩, 12), (⟨"StormHireModel", "isDark", "(II)V"⟩, 12), (⟨"StormHireModel", "readsSite", "()Z"⟩, 12), (⟨"StormHireModel", "number", "(II)I"⟩, 12), (⟨"StormHireModel", "takes", "(C)Z"⟩, 12)]
theorem lw_r2 : ∀ q ∈ lw_privs_2, lw_okq q := List.forall_mem_cons.mpr ⟨lw_p16, List.forall_mem_cons.mpr ⟨lw_p17, List.forall_mem_cons.mpr ⟨lw_p18, List.forall_mem_cons.mpr ⟨lw_p19, List.forall_mem_cons.mpr ⟨lw_p20, List.forall_mem_cons.mpr ⟨lw_p21, List.forall_mem_cons.mpr ⟨lw_p22, List.forall_mem_cons.mpr ⟨lw_p23, List.forall_mem_cons.mpr ⟨lw_p24, List.forall_mem_cons.mpr ⟨lw_p25, List.forall_mem_cons.mpr ⟨lw_p26, List.forall_mem_cons.mpr ⟨lw_p27, List.forall_mem_cons.mpr ⟨lw_p28, List.forall_mem_cons.mpr ⟨lw_p29, List.forall_mem_cons.mpr ⟨lw_p30, List.forall_mem_cons.mpr ⟨lw_p31, fun _ h => absurd h List.not_mem_nil⟩⟩⟩⟩⟩⟩⟩⟩⟩⟩⟩⟩⟩⟩⟩⟩
theorem lw_p32 : lw_okq (⟨"StormHireModel", "darkest", "()I"⟩, 12) := ⟨⟨by decide +kernel, by decide +kernel⟩, List.mem_of_getElem? (i := 552) (by decide +kernel), List.mem_of_getElem? (i := 826) (by decide +kernel), List.mem_of_getElem? (i := 827) (by decide +kernel)⟩
theorem lw_p33 : lw_okq (⟨"StormHireModel", "inTanks", "()I"⟩, 12) := ⟨⟨by decide +kernel, by decide +kernel⟩, List.mem_of_getElem? (i := 552) (by decide +kernel), List.mem_of_getElem? (i := 834) (by decide +kernel), List.mem_of_getElem? (i := 835) (by decide +kernel)⟩
theorem lw_p34 : lw_okq (⟨"StormHireModel", "openSites", "()I"⟩, 12) := ⟨⟨by decide +kernel, by decide +kernel⟩, List.mem_of_getElem? (i := 552) (by decide +kernel), List.mem_of_getElem? (i := 838) (by decide +kernel), List.mem_of_getElem? (i := 839) (by decide +kernel)⟩
def lw_privs_3 : List (MethodName × Nat) := [(⟨"StormHireModel", "darkest", "()I"⟩, 12), (⟨"StormHireModel", "inTanks", "()I"⟩, 12), (⟨"StormHireModel", "openSites", "()I"⟩, 12)]
theorem lw_r3 : ∀ q ∈ lw_privs_3, lw_okq q := List.forall_mem_cons.mpr ⟨lw_p32, List.forall_mem_cons.mpr ⟨lw_p33, List.forall_mem_cons.mpr ⟨lw_p34, fun _ h => absurd h List.not_mem_nil⟩⟩⟩
def lw_privs : List (MethodName × Nat) := lw_privs_1 ++ (lw_privs_2 ++ (lw_privs_3))
def lw_tbl : List Cond := k2_sels lw_privs ++ tables_1
theorem lw_privs_ok : ∀ q ∈ lw_privs, lw_okq q := by
  show ∀ q ∈ lw_privs_1 ++ (lw_privs_2 ++ (lw_privs_3)), lw_okq q
  exact List.forall_mem_append.mpr ⟨lw_r1, List.forall_mem_append.mpr ⟨lw_r2, lw_r3⟩⟩
def RX0 : String := "StormHire$Customer"
def TX0 : u_T := fun k => match k with
  | 0 => ("StormHire$Customer", "rank", "I", false)
  | 1 => ("StormHire$Customer", "load", "I", false)
  | 2 => ("StormHire$Customer", "from", "I", false)
  | 3 => ("StormHire$Customer", "until", "I", false)
  | 4 => ("StormHire$Customer", "supply", "I", false)
  | 5 => ("StormHire$Customer", "litHours", "I", false)
  | 6 => ("StormHire$Customer", "darkHours", "I", false)
  | 7 => ("StormHire$Customer", "bill", "I", false)
  | _ => ("StormHire$Customer", "latestCause", "I", false)
def tyX0 : Nat → FieldType := fun k => match k with
  | 0 => .int
  | 1 => .int
  | 2 => .int
  | 3 => .int
  | 4 => .int
  | 5 => .int
  | 6 => .int
  | 7 => .int
  | _ => .int
theorem nmX0 : ∀ a, a < 9 → ∀ b, b < 9 → a ≠ b → (TX0 a).2.1 ≠ (TX0 b).2.1 := by decide +kernel
theorem tyX0_ok : ∀ k, k < 9 → parseFieldDescriptor (TX0 k).2.2.1 = some (tyX0 k) := by decide +kernel
abbrev cX0_init : ByteArray := prog_2_method_1_code
def yX0_init : MethodName := ⟨RX0, "<init>", "()V"⟩
abbrev cX0_copyFrom : ByteArray := prog_2_method_2_code
def yX0_copyFrom : MethodName := ⟨RX0, "copyFrom", "(LStormHire$Customer;)V"⟩
abbrev cX0_begin : ByteArray := prog_2_method_3_code
def yX0_begin : MethodName := ⟨RX0, "begin", "(IIII)V"⟩
abbrev cX0_isOpenIn : ByteArray := prog_2_method_4_code
def yX0_isOpenIn : MethodName := ⟨RX0, "isOpenIn", "(I)Z"⟩
abbrev cX0_needsMoreThan : ByteArray := prog_2_method_5_code
def yX0_needsMoreThan : MethodName := ⟨RX0, "needsMoreThan", "(LStormHire$Customer;)Z"⟩
abbrev cX0_darken : ByteArray := prog_2_method_6_code
def yX0_darken : MethodName := ⟨RX0, "darken", "(I)V"⟩
abbrev cX0_light : ByteArray := prog_2_method_7_code
def yX0_light : MethodName := ⟨RX0, "light", "(I)V"⟩
def RX1 : String := "StormHire$Generator"
def TX1 : u_T := fun k => match k with
  | 0 => ("StormHire$Generator", "power", "I", false)
  | 1 => ("StormHire$Generator", "tank", "I", false)
  | 2 => ("StormHire$Generator", "burn", "I", false)
  | 3 => ("StormHire$Generator", "limit", "I", false)
  | 4 => ("StormHire$Generator", "fuel", "I", false)
  | 5 => ("StormHire$Generator", "place", "I", false)
  | 6 => ("StormHire$Generator", "runs", "Z", false)
  | 7 => ("StormHire$Generator", "warmth", "I", false)
  | _ => ("StormHire$Generator", "hoursRun", "I", false)
def tyX1 : Nat → FieldType := fun k => match k with
  | 0 => .int
  | 1 => .int
  | 2 => .int
  | 3 => .int
  | 4 => .int
  | 5 => .int
  | 6 => .boolean
  | 7 => .int
  | _ => .int
theorem nmX1 : ∀ a, a < 9 → ∀ b, b < 9 → a ≠ b → (TX1 a).2.1 ≠ (TX1 b).2.1 := by decide +kernel
theorem tyX1_ok : ∀ k, k < 9 → parseFieldDescriptor (TX1 k).2.2.1 = some (tyX1 k) := by decide +kernel
abbrev cX1_init : ByteArray := prog_3_method_1_code
def yX1_init : MethodName := ⟨RX1, "<init>", "()V"⟩
abbrev cX1_copyFrom : ByteArray := prog_3_method_2_code
def yX1_copyFrom : MethodName := ⟨RX1, "copyFrom", "(LStormHire$Generator;)V"⟩
abbrev cX1_room : ByteArray := prog_3_method_3_code
def yX1_room : MethodName := ⟨RX1, "room", "()I"⟩
abbrev cX1_hoursLeft : ByteArray := prog_3_method_4_code
def yX1_hoursLeft : MethodName := ⟨RX1, "hoursLeft", "()I"⟩
abbrev cX1_moveTo : ByteArray := prog_3_method_5_code
def yX1_moveTo : MethodName := ⟨RX1, "moveTo", "(I)V"⟩
abbrev cX1_causeAt : ByteArray := prog_3_method_6_code
def yX1_causeAt : MethodName := ⟨RX1, "causeAt", "(I)I"⟩
abbrev cX1_burnHour : ByteArray := prog_3_method_7_code
def yX1_burnHour : MethodName := ⟨RX1, "burnHour", "()V"⟩
def RX2 : String := "StormHire$History"
def TX2 : u_T := fun k => match k with
  | 0 => ("StormHire$History", "rows", "[LStormHire$State;", true)
  | 1 => ("StormHire$History", "oldest", "I", false)
  | _ => ("StormHire$History", "size", "I", false)
def tyX2 : Nat → FieldType := fun k => match k with
  | 0 => .array (.object "StormHire$State")
  | 1 => .int
  | _ => .int
theorem nmX2 : ∀ a, a < 3 → ∀ b, b < 3 → a ≠ b → (TX2 a).2.1 ≠ (TX2 b).2.1 := by decide +kernel
theorem tyX2_ok : ∀ k, k < 3 → parseFieldDescriptor (TX2 k).2.2.1 = some (tyX2 k) := by decide +kernel
abbrev cX2_init : ByteArray := prog_4_method_1_code
def yX2_init : MethodName := ⟨RX2, "<init>", "()V"⟩
abbrev cX2_push : ByteArray := prog_4_method_2_code
def yX2_push : MethodName := ⟨RX2, "push", "(LStormHire$State;)V"⟩
abbrev cX2_popInto : ByteArray := prog_4_method_3_code
def yX2_popInto : MethodName := ⟨RX2, "popInto", "(LStormHire$State;)Z"⟩
def RX3 : String := "StormHire$SiteText"
def TX3 : u_T := fun k => match k with
  | 0 => ("StormHire$SiteText", "signs", "[C", true)
  | 1 => ("StormHire$SiteText", "length", "I", false)
  | 2 => ("StormHire$SiteText", "lines", "[LStormHire$Customer;", true)
  | 3 => ("StormHire$SiteText", "found", "I", false)
  | _ => ("StormHire$SiteText", "at", "I", false)
def tyX3 : Nat → FieldType := fun k => match k with
  | 0 => .array .char
  | 1 => .int
  | 2 => .array (.object "StormHire$Customer")
  | 3 => .int
  | _ => .int
theorem nmX3 : ∀ a, a < 5 → ∀ b, b < 5 → a ≠ b → (TX3 a).2.1 ≠ (TX3 b).2.1 := by decide +kernel
theorem tyX3_ok : ∀ k, k < 5 → parseFieldDescriptor (TX3 k).2.2.1 = some (tyX3 k) := by decide +kernel
abbrev cX3_init : ByteArray := prog_5_method_1_code
def yX3_init : MethodName := ⟨RX3, "<init>", "()V"⟩
abbrev cX3_append : ByteArray := prog_5_method_2_code
def yX3_append : MethodName := ⟨RX3, "append", "(C)Z"⟩
abbrev cX3_read : ByteArray := prog_5_method_3_code
def yX3_read : MethodName := ⟨RX3, "read", "()Z"⟩
abbrev cX3_readSite : ByteArray := prog_5_method_4_code
def yX3_readSite : MethodName := ⟨RX3, "readSite", "()Z"⟩
abbrev cX3_readNumber : ByteArray := prog_5_method_5_code
def yX3_readNumber : MethodName := ⟨RX3, "readNumber", "(CI)I"⟩
abbrev cX3_isDigitFrom : ByteArray := prog_5_method_6_code
def yX3_isDigitFrom : MethodName := ⟨RX3, "isDigitFrom", "(C)Z"⟩
abbrev cX3_skip : ByteArray := prog_5_method_7_code
def yX3_skip : MethodName := ⟨RX3, "skip", "(C)Z"⟩
def RX4 : String := "StormHire$State"
def TX4 : u_T := fun k => match k with
  | 0 => ("StormHire$State", "hour", "I", false)
  | 1 => ("StormHire$State", "temperature", "I", false)
  | 2 => ("StormHire$State", "price", "I", false)
  | 3 => ("StormHire$State", "depot", "I", false)
  | 4 => ("StormHire$State", "burnt", "I", false)
  | 5 => ("StormHire$State", "bought", "I", false)
  | 6 => ("StormHire$State", "failedStarts", "I", false)
  | 7 => ("StormHire$State", "setTotal", "I", false)
  | 8 => ("StormHire$State", "siteTotal", "I", false)
  | 9 => ("StormHire$State", "generators", "[LStormHire$Generator;", true)
  | _ => ("StormHire$State", "customers", "[LStormHire$Customer;", true)
def tyX4 : Nat → FieldType := fun k => match k with
  | 0 => .int
  | 1 => .int
  | 2 => .int
  | 3 => .int
  | 4 => .int
  | 5 => .int
  | 6 => .int
  | 7 => .int
  | 8 => .int
  | 9 => .array (.object "StormHire$Generator")
  | _ => .array (.object "StormHire$Customer")
theorem nmX4 : ∀ a, a < 11 → ∀ b, b < 11 → a ≠ b → (TX4 a).2.1 ≠ (TX4 b).2.1 := by decide +kernel
theorem tyX4_ok : ∀ k, k < 11 → parseFieldDescriptor (TX4 k).2.2.1 = some (tyX4 k) := by decide +kernel
abbrev cX4_init : ByteArray := prog_6_method_1_code
def yX4_init : MethodName := ⟨RX4, "<init>", "()V"⟩
abbrev cX4_copyFrom : ByteArray := prog_6_method_2_code
def yX4_copyFrom : MethodName := ⟨RX4, "copyFrom", "(LStormHire$State;)V"⟩
abbrev cX4_isSet : ByteArray := prog_6_method_3_code
def yX4_isSet : MethodName := ⟨RX4, "isSet", "(I)Z"⟩
abbrev cX4_isSite : ByteArray := prog_6_method_4_code
def yX4_isSite : MethodName := ⟨RX4, "isSite", "(I)Z"⟩
abbrev cX4_allowsHours : ByteArray := prog_6_method_5_code
def yX4_allowsHours : MethodName := ⟨RX4, "allowsHours", "(II)Z"⟩
abbrev cX4_appendSet : ByteArray := prog_6_method_6_code
def yX4_appendSet : MethodName := ⟨RX4, "appendSet", "(IIII)I"⟩
abbrev cX4_appendSite : ByteArray := prog_6_method_7_code
def yX4_appendSite : MethodName := ⟨RX4, "appendSite", "(IIII)I"⟩
abbrev cX4_supplyOf : ByteArray := prog_6_method_8_code
def yX4_supplyOf : MethodName := ⟨RX4, "supplyOf", "(LStormHire$Customer;)LStormHire$Generator;"⟩
abbrev cX4_send : ByteArray := prog_6_method_9_code
def yX4_send : MethodName := ⟨RX4, "send", "(II)V"⟩
abbrev cX4_release : ByteArray := prog_6_method_10_code
def yX4_release : MethodName := ⟨RX4, "release", "(I)V"⟩
abbrev cX4_leastInYard : ByteArray := prog_6_method_11_code
def yX4_leastInYard : MethodName := ⟨RX4, "leastInYard", "(I)I"⟩
abbrev cX4_giverFor : ByteArray := prog_6_method_12_code
def yX4_giverFor : MethodName := ⟨RX4, "giverFor", "(I)I"⟩
abbrev cX4_exchange : ByteArray := prog_6_method_13_code
def yX4_exchange : MethodName := ⟨RX4, "exchange", "(II)V"⟩
abbrev cX4_listOpen : ByteArray := prog_6_method_14_code
def yX4_listOpen : MethodName := ⟨RX4, "listOpen", "([I)I"⟩
abbrev cX4_listSupplied : ByteArray := prog_6_method_15_code
def yX4_listSupplied : MethodName := ⟨RX4, "listSupplied", "([I)I"⟩
abbrev cX4_insert : ByteArray := prog_6_method_16_code
def yX4_insert : MethodName := ⟨RX4, "insert", "([IIIZ)V"⟩
abbrev cX4_isAhead : ByteArray := prog_6_method_17_code
def yX4_isAhead : MethodName := ⟨RX4, "isAhead", "(IIZ)Z"⟩
abbrev cX4_hoursLeftAt : ByteArray := prog_6_method_18_code
def yX4_hoursLeftAt : MethodName := ⟨RX4, "hoursLeftAt", "(I)I"⟩
abbrev cX4_causeFor : ByteArray := prog_6_method_19_code
def yX4_causeFor : MethodName := ⟨RX4, "causeFor", "(LStormHire$Customer;)I"⟩
abbrev cX4_passHours : ByteArray := prog_6_method_20_code
def yX4_passHours : MethodName := ⟨RX4, "passHours", "(I)V"⟩
abbrev cX4_passHour : ByteArray := prog_6_method_21_code
def yX4_passHour : MethodName := ⟨RX4, "passHour", "()V"⟩
abbrev cX4_lightOrDarken : ByteArray := prog_6_method_22_code
def yX4_lightOrDarken : MethodName := ⟨RX4, "lightOrDarken", "(LStormHire$Customer;)V"⟩
abbrev cX4_darkestSince : ByteArray := prog_6_method_23_code
def yX4_darkestSince : MethodName := ⟨RX4, "darkestSince", "(LStormHire$State;)I"⟩
abbrev cX4_yardSize : ByteArray := prog_6_method_24_code
def yX4_yardSize : MethodName := ⟨RX4, "yardSize", "()I"⟩
abbrev cX4_fuelInTanks : ByteArray := prog_6_method_25_code
def yX4_fuelInTanks : MethodName := ⟨RX4, "fuelInTanks", "()I"⟩
abbrev cX4_litTotal : ByteArray := prog_6_method_26_code
def yX4_litTotal : MethodName := ⟨RX4, "litTotal", "()I"⟩
abbrev cX4_darkTotal : ByteArray := prog_6_method_27_code
def yX4_darkTotal : MethodName := ⟨RX4, "darkTotal", "()I"⟩
abbrev cX4_billTotal : ByteArray := prog_6_method_28_code
def yX4_billTotal : MethodName := ⟨RX4, "billTotal", "()I"⟩
def RX5 : String := "StormHire"
def TX5 : u_T := fun k => match k with
  | 0 => ("StormHire", "now", "LStormHire$State;", true)
  | 1 => ("StormHire", "ahead", "LStormHire$State;", true)
  | 2 => ("StormHire", "snapshot", "LStormHire$State;", true)
  | 3 => ("StormHire", "snapshotTaken", "Z", false)
  | 4 => ("StormHire", "history", "LStormHire$History;", true)
  | 5 => ("StormHire", "text", "LStormHire$SiteText;", true)
  | _ => ("StormHire", "order", "[I", true)
def tyX5 : Nat → FieldType := fun k => match k with
  | 0 => .object "StormHire$State"
  | 1 => .object "StormHire$State"
  | 2 => .object "StormHire$State"
  | 3 => .boolean
  | 4 => .object "StormHire$History"
  | 5 => .object "StormHire$SiteText"
  | _ => .array .int
theorem nmX5 : ∀ a, a < 7 → ∀ b, b < 7 → a ≠ b → (TX5 a).2.1 ≠ (TX5 b).2.1 := by decide +kernel
theorem tyX5_ok : ∀ k, k < 7 → parseFieldDescriptor (TX5 k).2.2.1 = some (tyX5 k) := by decide +kernel
abbrev cX5_init : ByteArray := prog_1_method_1_code
def yX5_init : MethodName := ⟨RX5, "<init>", "()V"⟩
abbrev cX5_buy : ByteArray := prog_1_method_2_code
def yX5_buy : MethodName := ⟨RX5, "buy", "(I)I"⟩
abbrev cX5_weather : ByteArray := prog_1_method_3_code
def yX5_weather : MethodName := ⟨RX5, "weather", "(I)I"⟩
abbrev cX5_setPrice : ByteArray := prog_1_method_4_code
def yX5_setPrice : MethodName := ⟨RX5, "setPrice", "(I)I"⟩
abbrev cX5_addSet : ByteArray := prog_1_method_5_code
def yX5_addSet : MethodName := ⟨RX5, "addSet", "(IIII)I"⟩
abbrev cX5_fill : ByteArray := prog_1_method_6_code
def yX5_fill : MethodName := ⟨RX5, "fill", "(I)I"⟩
abbrev cX5_addSite : ByteArray := prog_1_method_7_code
def yX5_addSite : MethodName := ⟨RX5, "addSite", "(IIII)I"⟩
abbrev cX5_bring : ByteArray := prog_1_method_8_code
def yX5_bring : MethodName := ⟨RX5, "bring", "(II)I"⟩
abbrev cX5_takeBack : ByteArray := prog_1_method_9_code
def yX5_takeBack : MethodName := ⟨RX5, "takeBack", "(I)I"⟩
abbrev cX5_giveOut : ByteArray := prog_1_method_10_code
def yX5_giveOut : MethodName := ⟨RX5, "giveOut", "()I"⟩
abbrev cX5_swap : ByteArray := prog_1_method_11_code
def yX5_swap : MethodName := ⟨RX5, "swap", "()I"⟩
abbrev cX5_fuelRun : ByteArray := prog_1_method_12_code
def yX5_fuelRun : MethodName := ⟨RX5, "fuelRun", "()I"⟩
abbrev cX5_pass : ByteArray := prog_1_method_13_code
def yX5_pass : MethodName := ⟨RX5, "pass", "(I)I"⟩
abbrev cX5_type : ByteArray := prog_1_method_14_code
def yX5_type : MethodName := ⟨RX5, "type", "(C)I"⟩
abbrev cX5_clearText : ByteArray := prog_1_method_15_code
def yX5_clearText : MethodName := ⟨RX5, "clearText", "()I"⟩
abbrev cX5_readSites : ByteArray := prog_1_method_16_code
def yX5_readSites : MethodName := ⟨RX5, "readSites", "()I"⟩
abbrev cX5_undo : ByteArray := prog_1_method_17_code
def yX5_undo : MethodName := ⟨RX5, "undo", "()I"⟩
abbrev cX5_keep : ByteArray := prog_1_method_18_code
def yX5_keep : MethodName := ⟨RX5, "keep", "()I"⟩
abbrev cX5_restore : ByteArray := prog_1_method_19_code
def yX5_restore : MethodName := ⟨RX5, "restore", "()I"⟩
abbrev cX5_set : ByteArray := prog_1_method_20_code
def yX5_set : MethodName := ⟨RX5, "set", "(II)I"⟩
abbrev cX5_site : ByteArray := prog_1_method_21_code
def yX5_site : MethodName := ⟨RX5, "site", "(II)I"⟩
abbrev cX5_why : ByteArray := prog_1_method_22_code
def yX5_why : MethodName := ⟨RX5, "why", "(I)I"⟩
abbrev cX5_needy : ByteArray := prog_1_method_23_code
def yX5_needy : MethodName := ⟨RX5, "needy", "(I)I"⟩
abbrev cX5_thirsty : ByteArray := prog_1_method_24_code
def yX5_thirsty : MethodName := ⟨RX5, "thirsty", "(I)I"⟩
abbrev cX5_forecast : ByteArray := prog_1_method_25_code
def yX5_forecast : MethodName := ⟨RX5, "forecast", "(II)I"⟩
abbrev cX5_count : ByteArray := prog_1_method_26_code
def yX5_count : MethodName := ⟨RX5, "count", "(I)I"⟩
abbrev cX5_isWithin : ByteArray := prog_1_method_27_code
def yX5_isWithin : MethodName := ⟨RX5, "isWithin", "(III)Z"⟩
def RX6 : String := "StormHireModel"
def TX6 : u_T := fun k => match k with
  | 0 => ("StormHireModel", "now", "[I", true)
  | 1 => ("StormHireModel", "history", "[I", true)
  | 2 => ("StormHireModel", "kept", "I", false)
  | 3 => ("StormHireModel", "slot", "[I", true)
  | 4 => ("StormHireModel", "isFilled", "Z", false)
  | 5 => ("StormHireModel", "spare", "[I", true)
  | 6 => ("StormHireModel", "line", "[I", true)
  | 7 => ("StormHireModel", "typed", "I", false)
  | 8 => ("StormHireModel", "text", "[C", true)
  | 9 => ("StormHireModel", "place", "I", false)
  | 10 => ("StormHireModel", "readMany", "I", false)
  | _ => ("StormHireModel", "readSite", "[I", true)
def tyX6 : Nat → FieldType := fun k => match k with
  | 0 => .array .int
  | 1 => .array .int
  | 2 => .int
  | 3 => .array .int
  | 4 => .boolean
  | 5 => .array .int
  | 6 => .array .int
  | 7 => .int
  | 8 => .array .char
  | 9 => .int
  | 10 => .int
  | _ => .array .int
theorem nmX6 : ∀ a, a < 12 → ∀ b, b < 12 → a ≠ b → (TX6 a).2.1 ≠ (TX6 b).2.1 := by decide +kernel
theorem tyX6_ok : ∀ k, k < 12 → parseFieldDescriptor (TX6 k).2.2.1 = some (tyX6 k) := by decide +kernel
abbrev cX6_init : ByteArray := prog_8_method_1_code
def yX6_init : MethodName := ⟨RX6, "<init>", "()V"⟩
abbrev cX6_in : ByteArray := prog_8_method_2_code
def yX6_in : MethodName := ⟨RX6, "in", "(III)Z"⟩
abbrev cX6_least : ByteArray := prog_8_method_3_code
def yX6_least : MethodName := ⟨RX6, "least", "(II)I"⟩
abbrev cX6_record : ByteArray := prog_8_method_4_code
def yX6_record : MethodName := ⟨RX6, "record", "()V"⟩
abbrev cX6_noSet : ByteArray := prog_8_method_5_code
def yX6_noSet : MethodName := ⟨RX6, "noSet", "(I)Z"⟩
abbrev cX6_noSite : ByteArray := prog_8_method_6_code
def yX6_noSite : MethodName := ⟨RX6, "noSite", "(I)Z"⟩
abbrev cX6_ofSet : ByteArray := prog_8_method_7_code
def yX6_ofSet : MethodName := ⟨RX6, "ofSet", "(II)I"⟩
abbrev cX6_toSet : ByteArray := prog_8_method_8_code
def yX6_toSet : MethodName := ⟨RX6, "toSet", "(III)V"⟩
abbrev cX6_ofSite : ByteArray := prog_8_method_9_code
def yX6_ofSite : MethodName := ⟨RX6, "ofSite", "(II)I"⟩
abbrev cX6_toSite : ByteArray := prog_8_method_10_code
def yX6_toSite : MethodName := ⟨RX6, "toSite", "(III)V"⟩
abbrev cX6_buy : ByteArray := prog_8_method_11_code
def yX6_buy : MethodName := ⟨RX6, "buy", "(I)I"⟩
abbrev cX6_weather : ByteArray := prog_8_method_12_code
def yX6_weather : MethodName := ⟨RX6, "weather", "(I)I"⟩
abbrev cX6_setPrice : ByteArray := prog_8_method_13_code
def yX6_setPrice : MethodName := ⟨RX6, "setPrice", "(I)I"⟩
abbrev cX6_addSet : ByteArray := prog_8_method_14_code
def yX6_addSet : MethodName := ⟨RX6, "addSet", "(IIII)I"⟩
abbrev cX6_roomIn : ByteArray := prog_8_method_15_code
def yX6_roomIn : MethodName := ⟨RX6, "roomIn", "(I)I"⟩
abbrev cX6_fills : ByteArray := prog_8_method_16_code
def yX6_fills : MethodName := ⟨RX6, "fills", "(II)V"⟩
abbrev cX6_fill : ByteArray := prog_8_method_17_code
def yX6_fill : MethodName := ⟨RX6, "fill", "(I)I"⟩
abbrev cX6_areHours : ByteArray := prog_8_method_18_code
def yX6_areHours : MethodName := ⟨RX6, "areHours", "(II)Z"⟩
abbrev cX6_adds : ByteArray := prog_8_method_19_code
def yX6_adds : MethodName := ⟨RX6, "adds", "(IIII)I"⟩
abbrev cX6_addSite : ByteArray := prog_8_method_20_code
def yX6_addSite : MethodName := ⟨RX6, "addSite", "(IIII)I"⟩
abbrev cX6_setAt : ByteArray := prog_8_method_21_code
def yX6_setAt : MethodName := ⟨RX6, "setAt", "(I)I"⟩
abbrev cX6_isOpen : ByteArray := prog_8_method_22_code
def yX6_isOpen : MethodName := ⟨RX6, "isOpen", "(I)Z"⟩
abbrev cX6_fits : ByteArray := prog_8_method_23_code
def yX6_fits : MethodName := ⟨RX6, "fits", "(II)Z"⟩
abbrev cX6_comes : ByteArray := prog_8_method_24_code
def yX6_comes : MethodName := ⟨RX6, "comes", "(II)V"⟩
abbrev cX6_goesBack : ByteArray := prog_8_method_25_code
def yX6_goesBack : MethodName := ⟨RX6, "goesBack", "(I)V"⟩
abbrev cX6_inYard : ByteArray := prog_8_method_26_code
def yX6_inYard : MethodName := ⟨RX6, "inYard", "()I"⟩
abbrev cX6_bring : ByteArray := prog_8_method_27_code
def yX6_bring : MethodName := ⟨RX6, "bring", "(II)I"⟩
abbrev cX6_takeBack : ByteArray := prog_8_method_28_code
def yX6_takeBack : MethodName := ⟨RX6, "takeBack", "(I)I"⟩
abbrev cX6_isNeedier : ByteArray := prog_8_method_29_code
def yX6_isNeedier : MethodName := ⟨RX6, "isNeedier", "(II)Z"⟩
abbrev cX6_needyAt : ByteArray := prog_8_method_30_code
def yX6_needyAt : MethodName := ⟨RX6, "needyAt", "(I)I"⟩
abbrev cX6_yardFor : ByteArray := prog_8_method_31_code
def yX6_yardFor : MethodName := ⟨RX6, "yardFor", "(I)I"⟩
abbrev cX6_wants : ByteArray := prog_8_method_32_code
def yX6_wants : MethodName := ⟨RX6, "wants", "(I)Z"⟩
abbrev cX6_giveOut : ByteArray := prog_8_method_33_code
def yX6_giveOut : MethodName := ⟨RX6, "giveOut", "()I"⟩
abbrev cX6_partnerOf : ByteArray := prog_8_method_34_code
def yX6_partnerOf : MethodName := ⟨RX6, "partnerOf", "(I)I"⟩
abbrev cX6_swap : ByteArray := prog_8_method_35_code
def yX6_swap : MethodName := ⟨RX6, "swap", "()I"⟩
abbrev cX6_hoursLeft : ByteArray := prog_8_method_36_code
def yX6_hoursLeft : MethodName := ⟨RX6, "hoursLeft", "(I)I"⟩
abbrev cX6_thirstyAt : ByteArray := prog_8_method_37_code
def yX6_thirstyAt : MethodName := ⟨RX6, "thirstyAt", "(I)I"⟩
abbrev cX6_fuelRun : ByteArray := prog_8_method_38_code
def yX6_fuelRun : MethodName := ⟨RX6, "fuelRun", "()I"⟩
abbrev cX6_against : ByteArray := prog_8_method_39_code
def yX6_against : MethodName := ⟨RX6, "against", "(I)I"⟩
abbrev cX6_isDark : ByteArray := prog_8_method_40_code
def yX6_isDark : MethodName := ⟨RX6, "isDark", "(II)V"⟩
abbrev cX6_isLit : ByteArray := prog_8_method_41_code
def yX6_isLit : MethodName := ⟨RX6, "isLit", "(I)V"⟩
abbrev cX6_goesOn : ByteArray := prog_8_method_42_code
def yX6_goesOn : MethodName := ⟨RX6, "goesOn", "()I"⟩
abbrev cX6_goesOnFor : ByteArray := prog_8_method_43_code
def yX6_goesOnFor : MethodName := ⟨RX6, "goesOnFor", "(I)I"⟩
abbrev cX6_pass : ByteArray := prog_8_method_44_code
def yX6_pass : MethodName := ⟨RX6, "pass", "(I)I"⟩
abbrev cX6_type : ByteArray := prog_8_method_45_code
def yX6_type : MethodName := ⟨RX6, "type", "(C)I"⟩
abbrev cX6_clearText : ByteArray := prog_8_method_46_code
def yX6_clearText : MethodName := ⟨RX6, "clearText", "()I"⟩
abbrev cX6_takes : ByteArray := prog_8_method_47_code
def yX6_takes : MethodName := ⟨RX6, "takes", "(C)Z"⟩
abbrev cX6_number : ByteArray := prog_8_method_48_code
def yX6_number : MethodName := ⟨RX6, "number", "(II)I"⟩
abbrev cX6_readsSite : ByteArray := prog_8_method_49_code
def yX6_readsSite : MethodName := ⟨RX6, "readsSite", "()Z"⟩
abbrev cX6_readSites : ByteArray := prog_8_method_50_code
def yX6_readSites : MethodName := ⟨RX6, "readSites", "()I"⟩
abbrev cX6_undo : ByteArray := prog_8_method_51_code
def yX6_undo : MethodName := ⟨RX6, "undo", "()I"⟩
abbrev cX6_keep : ByteArray := prog_8_method_52_code
def yX6_keep : MethodName := ⟨RX6, "keep", "()I"⟩
abbrev cX6_restore : ByteArray := prog_8_method_53_code
def yX6_restore : MethodName := ⟨RX6, "restore", "()I"⟩
abbrev cX6_set : ByteArray := prog_8_method_54_code
def yX6_set : MethodName := ⟨RX6, "set", "(II)I"⟩
abbrev cX6_site : ByteArray := prog_8_method_55_code
def yX6_site : MethodName := ⟨RX6, "site", "(II)I"⟩
abbrev cX6_why : ByteArray := prog_8_method_56_code
def yX6_why : MethodName := ⟨RX6, "why", "(I)I"⟩
abbrev cX6_needy : ByteArray := prog_8_method_57_code
def yX6_needy : MethodName := ⟨RX6, "needy", "(I)I"⟩
abbrev cX6_thirsty : ByteArray := prog_8_method_58_code
def yX6_thirsty : MethodName := ⟨RX6, "thirsty", "(I)I"⟩
abbrev cX6_darkest : ByteArray := prog_8_method_59_code
def yX6_darkest : MethodName := ⟨RX6, "darkest", "()I"⟩
abbrev cX6_forecast : ByteArray := prog_8_method_60_code
def yX6_forecast : MethodName := ⟨RX6, "forecast", "(II)I"⟩
abbrev cX6_inTanks : ByteArray := prog_8_method_61_code
def yX6_inTanks : MethodName := ⟨RX6, "inTanks", "()I"⟩
abbrev cX6_openSites : ByteArray := prog_8_method_62_code
def yX6_openSites : MethodName := ⟨RX6, "openSites", "()I"⟩
abbrev cX6_count : ByteArray := prog_8_method_63_code
def yX6_count : MethodName := ⟨RX6, "count", "(I)I"⟩
def RJ9 : String := "java/lang/Math"
abbrev cJ9_abs_0f7a4 : ByteArray := prog_9_method_59_code
def yJ9_abs_0f7a4 : MethodName := ⟨RJ9, "abs", "(I)I"⟩
abbrev cJ9_min_7cf53 : ByteArray := prog_9_method_69_code
def yJ9_min_7cf53 : MethodName := ⟨RJ9, "min", "(II)I"⟩
def RL : String := "StormHireLaw"
abbrev cL_law : ByteArray := code
def yL_law : MethodName := ⟨RL, "law", "([I)Z"⟩
abbrev vwCl : List vw_C := [(RX0, TX0, 9), (RX1, TX1, 9), (RX2, TX2, 3), (RX3, TX3, 5), (RX4, TX4, 11), (RX5, TX5, 7), (RX6, TX6, 12)]
/-- the tables' words that any callee may have -/
def gw : List Cond := lw_tbl.filter goodWord
def isNw : Cond → Bool
  | .fieldLinkNest .. => true
  | .methodLinkNest .. => true
  | _ => false
def nw : List Cond := lw_tbl.filter isNw
theorem gm {w : Cond} (i : Nat) (h : lw_tbl[i]? = some w) (hg : goodWord w = true) : w ∈ gw := List.mem_filter.mpr ⟨List.mem_of_getElem? h, hg⟩
theorem nmw {w : Cond} (i : Nat) (h : lw_tbl[i]? = some w) (hg : isNw w = true) : w ∈ nw := List.mem_filter.mpr ⟨List.mem_of_getElem? h, hg⟩
theorem gw_good {w : Cond} (h : w ∈ gw) : (w.onTables && w.keeps) = true ∨ ∃ ty, w = .arrayClass ty := good_of_word (List.mem_filter.mp h).2
theorem gw_in {w : Cond} (h : w ∈ gw) : w ∈ lw_tbl := (List.mem_filter.mp h).1
theorem nw_in {w : Cond} (h : w ∈ nw) : w ∈ lw_tbl := (List.mem_filter.mp h).1
/-- a field's link: the class of place ci, its slot k -/
def FL (own : String) (idx ci k : Nat) : Prop := ∃ (C : String) (T : u_T) (N : Nat), vwCl[ci]? = some (C, T, N) ∧ k < N ∧ (T k).1 = C ∧ (Cond.fieldLink own idx C (T k).2.1 (T k).2.2.1 ∈ gw ∨ ∃ host, Cond.fieldLinkNest own idx C (T k).2.1 (T k).2.2.1 host ∈ nw)
/-- a method's link -/
def ML (own : String) (idx : Nat) (y : MethodName) : Prop := Cond.methodLink own idx y ∈ gw ∨ ∃ host, Cond.methodLinkNest own idx y host ∈ nw
abbrev YB (y : MethodName) (b : ByteArray) (n : Nat) (ret : Option FieldType) (np : Nat) : Prop := Cond.code y b n ret ∈ gw ∧ Cond.initialized y.cls ∈ gw ∧ (y.cls ≠ "java/lang/invoke/MethodHandle" ∧ y.cls ≠ "java/lang/invoke/VarHandle") ∧ (parseMethodDescriptor y.desc).map (fun d => d.parameters.length) = some np ∧ plainName y.cls = true
def YV (y : MethodName) (b : ByteArray) (n : Nat) (ret : Option FieldType) (np : Nat) : Prop := YB y b n ret np ∧ Cond.instanceMethod y ∈ gw ∧ Cond.selects y.cls y y ∈ gw
def YS (y : MethodName) (b : ByteArray) (n : Nat) (ret : Option FieldType) (np : Nat) : Prop := YB y b n ret np ∧ Cond.static y ∈ gw
def YI (y : MethodName) (b : ByteArray) (n : Nat) (np : Nat) : Prop := YB y b n none np ∧ Cond.instanceMethod y ∈ gw ∧ y.name = "<init>"
theorem laid0 : ∀ w ∈ u_ws RX0 TX0 9, w ∈ gw := fun w h => List.mem_filter.mpr ⟨(by decide +kernel : ∀ w ∈ u_ws RX0 TX0 9, w ∈ lw_tbl) w h, (by decide +kernel : ∀ w ∈ u_ws RX0 TX0 9, goodWord w = true) w h⟩
theorem inst0 : Cond.instantiable RX0 9 ∈ gw := (gm 112 (by decide +kernel) (by decide +kernel))
theorem laid1 : ∀ w ∈ u_ws RX1 TX1 9, w ∈ gw := fun w h => List.mem_filter.mpr ⟨(by decide +kernel : ∀ w ∈ u_ws RX1 TX1 9, w ∈ lw_tbl) w h, (by decide +kernel : ∀ w ∈ u_ws RX1 TX1 9, goodWord w = true) w h⟩
theorem inst1 : Cond.instantiable RX1 9 ∈ gw := (gm 62 (by decide +kernel) (by decide +kernel))
theorem laid2 : ∀ w ∈ u_ws RX2 TX2 3, w ∈ gw := fun w h => List.mem_filter.mpr ⟨(by decide +kernel : ∀ w ∈ u_ws RX2 TX2 3, w ∈ lw_tbl) w h, (by decide +kernel : ∀ w ∈ u_ws RX2 TX2 3, goodWord w = true) w h⟩
theorem inst2 : Cond.instantiable RX2 3 ∈ gw := (gm 206 (by decide +kernel) (by decide +kernel))
theorem laid3 : ∀ w ∈ u_ws RX3 TX3 5, w ∈ gw := fun w h => List.mem_filter.mpr ⟨(by decide +kernel : ∀ w ∈ u_ws RX3 TX3 5, w ∈ lw_tbl) w h, (by decide +kernel : ∀ w ∈ u_ws RX3 TX3 5, goodWord w = true) w h⟩
theorem inst3 : Cond.instantiable RX3 5 ∈ gw := (gm 226 (by decide +kernel) (by decide +kernel))
theorem laid4 : ∀ w ∈ u_ws RX4 TX4 11, w ∈ gw := fun w h => List.mem_filter.mpr ⟨(by decide +kernel : ∀ w ∈ u_ws RX4 TX4 11, w ∈ lw_tbl) w h, (by decide +kernel : ∀ w ∈ u_ws RX4 TX4 11, goodWord w = true) w h⟩
theorem inst4 : Cond.instantiable RX4 11 ∈ gw := (gm 53 (by decide +kernel) (by decide +kernel))
theorem laid5 : ∀ w ∈ u_ws RX5 TX5 7, w ∈ gw := fun w h => List.mem_filter.mpr ⟨(by decide +kernel : ∀ w ∈ u_ws RX5 TX5 7, w ∈ lw_tbl) w h, (by decide +kernel : ∀ w ∈ u_ws RX5 TX5 7, goodWord w = true) w h⟩
theorem inst5 : Cond.instantiable RX5 7 ∈ gw := (gm 45 (by decide +kernel) (by decide +kernel))
theorem laid6 : ∀ w ∈ u_ws RX6 TX6 12, w ∈ gw := fun w h => List.mem_filter.mpr ⟨(by decide +kernel : ∀ w ∈ u_ws RX6 TX6 12, w ∈ lw_tbl) w h, (by decide +kernel : ∀ w ∈ u_ws RX6 TX6 12, goodWord w = true) w h⟩
theorem inst6 : Cond.instantiable RX6 12 ∈ gw := (gm 587 (by decide +kernel) (by decide +kernel))
theorem ini_L : Cond.initialized RL ∈ gw := (gm 35 (by decide +kernel) (by decide +kernel))
theorem ini_X5 : Cond.initialized RX5 ∈ gw := (gm 36 (by decide +kernel) (by decide +kernel))
theorem ini_X4 : Cond.initialized RX4 ∈ gw := (gm 37 (by decide +kernel) (by decide +kernel))
theorem ini_X1 : Cond.initialized RX1 ∈ gw := (gm 38 (by decide +kernel) (by decide +kernel))
theorem ini_X0 : Cond.initialized RX0 ∈ gw := (gm 39 (by decide +kernel) (by decide +kernel))
theorem ini_X2 : Cond.initialized RX2 ∈ gw := (gm 40 (by decide +kernel) (by decide +kernel))
theorem ini_X3 : Cond.initialized RX3 ∈ gw := (gm 41 (by decide +kernel) (by decide +kernel))
theorem ini_X6 : Cond.initialized RX6 ∈ gw := (gm 42 (by decide +kernel) (by decide +kernel))
theorem ini_J9 : Cond.initialized RJ9 ∈ gw := (gm 43 (by decide +kernel) (by decide +kernel))
theorem cl_L_7 : Cond.classLink RL 7 RX5 ∈ gw := (gm 44 (by decide +kernel) (by decide +kernel))
theorem ml_L_9 : ML RL 9 yX5_init := Or.inl (gm 46 (by decide +kernel) (by decide +kernel))
theorem ml_X5_1 : Cond.methodLink RX5 1 objectInit ∈ gw := (gm 49 (by decide +kernel) (by decide +kernel))
theorem cl_X5_7 : Cond.classLink RX5 7 RX4 ∈ gw := (gm 52 (by decide +kernel) (by decide +kernel))
theorem ml_X5_9 : ML RX5 9 yX4_init := Or.inl (gm 54 (by decide +kernel) (by decide +kernel))
theorem ml_X4_3 : Cond.methodLink RX4 3 objectInit ∈ gw := (gm 57 (by decide +kernel) (by decide +kernel))
theorem cl_X4_18 : Cond.classLink RX4 18 RX1 ∈ gw := (gm 58 (by decide +kernel) (by decide +kernel))
theorem ao_X1 : Cond.arrayOver (.object RX1) ∈ lw_tbl := List.mem_of_getElem? (i := 59) (by decide +kernel)
theorem cl_X4_24 : Cond.classLink RX4 24 RX0 ∈ gw := (gm 60 (by decide +kernel) (by decide +kernel))
theorem ao_X0 : Cond.arrayOver (.object RX0) ∈ lw_tbl := List.mem_of_getElem? (i := 61) (by decide +kernel)
theorem ml_X4_30 : ML RX4 30 yX1_init := Or.inr ⟨"StormHire", (nmw 63 (by decide +kernel) (by decide +kernel))⟩
theorem ml_X1_3 : Cond.methodLink RX1 3 objectInit ∈ gw := (gm 66 (by decide +kernel) (by decide +kernel))
theorem fl_X1_15 : FL RX1 15 1 0 := ⟨RX1, TX1, 9, rfl, by decide, by decide +kernel, Or.inl (gm 67 (by decide +kernel) (by decide +kernel))⟩
theorem fl_X4_64 : FL RX4 64 1 0 := ⟨RX1, TX1, 9, rfl, by decide, by decide +kernel, Or.inr ⟨"StormHire", (nmw 68 (by decide +kernel) (by decide +kernel))⟩⟩
theorem fl_X5_131 : FL RX5 131 1 0 := ⟨RX1, TX1, 9, rfl, by decide, by decide +kernel, Or.inr ⟨"StormHire", (nmw 69 (by decide +kernel) (by decide +kernel))⟩⟩
theorem fl_X1_18 : FL RX1 18 1 1 := ⟨RX1, TX1, 9, rfl, by decide, by decide +kernel, Or.inl (gm 70 (by decide +kernel) (by decide +kernel))⟩
theorem fl_X4_67 : FL RX4 67 1 1 := ⟨RX1, TX1, 9, rfl, by decide, by decide +kernel, Or.inr ⟨"StormHire", (nmw 71 (by decide +kernel) (by decide +kernel))⟩⟩
theorem fl_X5_210 : FL RX5 210 1 1 := ⟨RX1, TX1, 9, rfl, by decide, by decide +kernel, Or.inr ⟨"StormHire", (nmw 72 (by decide +kernel) (by decide +kernel))⟩⟩
theorem fl_X1_21 : FL RX1 21 1 2 := ⟨RX1, TX1, 9, rfl, by decide, by decide +kernel, Or.inl (gm 73 (by decide +kernel) (by decide +kernel))⟩
theorem fl_X4_70 : FL RX4 70 1 2 := ⟨RX1, TX1, 9, rfl, by decide, by decide +kernel, Or.inr ⟨"StormHire", (nmw 74 (by decide +kernel) (by decide +kernel))⟩⟩
theorem fl_X5_213 : FL RX5 213 1 2 := ⟨RX1, TX1, 9, rfl, by decide, by decide +kernel, Or.inr ⟨"StormHire", (nmw 75 (by decide +kernel) (by decide +kernel))⟩⟩
theorem fl_X1_24 : FL RX1 24 1 3 := ⟨RX1, TX1, 9, rfl, by decide, by decide +kernel, Or.inl (gm 76 (by decide +kernel) (by decide +kernel))⟩
theorem fl_X4_73 : FL RX4 73 1 3 := ⟨RX1, TX1, 9, rfl, by decide, by decide +kernel, Or.inr ⟨"StormHire", (nmw 77 (by decide +kernel) (by decide +kernel))⟩⟩
theorem fl_X5_216 : FL RX5 216 1 3 := ⟨RX1, TX1, 9, rfl, by decide, by decide +kernel, Or.inr ⟨"StormHire", (nmw 78 (by decide +kernel) (by decide +kernel))⟩⟩
theorem fl_X1_27 : FL RX1 27 1 4 := ⟨RX1, TX1, 9, rfl, by decide, by decide +kernel, Or.inl (gm 79 (by decide +kernel) (by decide +kernel))⟩
theorem fl_X4_76 : FL RX4 76 1 4 := ⟨RX1, TX1, 9, rfl, by decide, by decide +kernel, Or.inr ⟨"StormHire", (nmw 80 (by decide +kernel) (by decide +kernel))⟩⟩
theorem fl_X5_100 : FL RX5 100 1 4 := ⟨RX1, TX1, 9, rfl, by decide, by decide +kernel, Or.inr ⟨"StormHire", (nmw 81 (by decide +kernel) (by decide +kernel))⟩⟩
theorem fl_X1_9 : FL RX1 9 1 5 := ⟨RX1, TX1, 9, rfl, by decide, by decide +kernel, Or.inl (gm 82 (by decide +kernel) (by decide +kernel))⟩
theorem fl_X5_87 : FL RX5 87 1 5 := ⟨RX1, TX1, 9, rfl, by decide, by decide +kernel, Or.inr ⟨"StormHire", (nmw 83 (by decide +kernel) (by decide +kernel))⟩⟩
theorem fl_X4_101 : FL RX4 101 1 5 := ⟨RX1, TX1, 9, rfl, by decide, by decide +kernel, Or.inr ⟨"StormHire", (nmw 84 (by decide +kernel) (by decide +kernel))⟩⟩
theorem fl_X1_30 : FL RX1 30 1 6 := ⟨RX1, TX1, 9, rfl, by decide, by decide +kernel, Or.inl (gm 85 (by decide +kernel) (by decide +kernel))⟩
theorem fl_X5_219 : FL RX5 219 1 6 := ⟨RX1, TX1, 9, rfl, by decide, by decide +kernel, Or.inr ⟨"StormHire", (nmw 86 (by decide +kernel) (by decide +kernel))⟩⟩
theorem fl_X1_34 : FL RX1 34 1 7 := ⟨RX1, TX1, 9, rfl, by decide, by decide +kernel, Or.inl (gm 87 (by decide +kernel) (by decide +kernel))⟩
theorem fl_X5_222 : FL RX5 222 1 7 := ⟨RX1, TX1, 9, rfl, by decide, by decide +kernel, Or.inr ⟨"StormHire", (nmw 88 (by decide +kernel) (by decide +kernel))⟩⟩
theorem fl_X4_165 : FL RX4 165 1 7 := ⟨RX1, TX1, 9, rfl, by decide, by decide +kernel, Or.inr ⟨"StormHire", (nmw 89 (by decide +kernel) (by decide +kernel))⟩⟩
theorem fl_X1_37 : FL RX1 37 1 8 := ⟨RX1, TX1, 9, rfl, by decide, by decide +kernel, Or.inl (gm 90 (by decide +kernel) (by decide +kernel))⟩
theorem fl_X4_79 : FL RX4 79 1 8 := ⟨RX1, TX1, 9, rfl, by decide, by decide +kernel, Or.inr ⟨"StormHire", (nmw 91 (by decide +kernel) (by decide +kernel))⟩⟩
theorem fl_X5_225 : FL RX5 225 1 8 := ⟨RX1, TX1, 9, rfl, by decide, by decide +kernel, Or.inr ⟨"StormHire", (nmw 92 (by decide +kernel) (by decide +kernel))⟩⟩
theorem ml_X4_31 : ML RX4 31 yX0_init := Or.inr ⟨"StormHire", (nmw 113 (by decide +kernel) (by decide +kernel))⟩
theorem ml_X0_3 : Cond.methodLink RX0 3 objectInit ∈ gw := (gm 116 (by decide +kernel) (by decide +kernel))
theorem fl_X0_18 : FL RX0 18 0 0 := ⟨RX0, TX0, 9, rfl, by decide, by decide +kernel, Or.inl (gm 117 (by decide +kernel) (by decide +kernel))⟩
theorem fl_X5_197 : FL RX5 197 0 0 := ⟨RX0, TX0, 9, rfl, by decide, by decide +kernel, Or.inr ⟨"StormHire", (nmw 118 (by decide +kernel) (by decide +kernel))⟩⟩
theorem fl_X0_21 : FL RX0 21 0 1 := ⟨RX0, TX0, 9, rfl, by decide, by decide +kernel, Or.inl (gm 119 (by decide +kernel) (by decide +kernel))⟩
theorem fl_X5_134 : FL RX5 134 0 1 := ⟨RX0, TX0, 9, rfl, by decide, by decide +kernel, Or.inr ⟨"StormHire", (nmw 120 (by decide +kernel) (by decide +kernel))⟩⟩
theorem fl_X4_104 : FL RX4 104 0 1 := ⟨RX0, TX0, 9, rfl, by decide, by decide +kernel, Or.inr ⟨"StormHire", (nmw 121 (by decide +kernel) (by decide +kernel))⟩⟩
theorem fl_X0_24 : FL RX0 24 0 2 := ⟨RX0, TX0, 9, rfl, by decide, by decide +kernel, Or.inl (gm 122 (by decide +kernel) (by decide +kernel))⟩
theorem fl_X5_194 : FL RX5 194 0 2 := ⟨RX0, TX0, 9, rfl, by decide, by decide +kernel, Or.inr ⟨"StormHire", (nmw 123 (by decide +kernel) (by decide +kernel))⟩⟩
theorem fl_X0_27 : FL RX0 27 0 3 := ⟨RX0, TX0, 9, rfl, by decide, by decide +kernel, Or.inl (gm 124 (by decide +kernel) (by decide +kernel))⟩
theorem fl_X5_128 : FL RX5 128 0 3 := ⟨RX0, TX0, 9, rfl, by decide, by decide +kernel, Or.inr ⟨"StormHire", (nmw 125 (by decide +kernel) (by decide +kernel))⟩⟩
theorem fl_X4_146 : FL RX4 146 0 3 := ⟨RX0, TX0, 9, rfl, by decide, by decide +kernel, Or.inr ⟨"StormHire", (nmw 126 (by decide +kernel) (by decide +kernel))⟩⟩
theorem fl_X0_9 : FL RX0 9 0 4 := ⟨RX0, TX0, 9, rfl, by decide, by decide +kernel, Or.inl (gm 127 (by decide +kernel) (by decide +kernel))⟩
theorem fl_X4_90 : FL RX4 90 0 4 := ⟨RX0, TX0, 9, rfl, by decide, by decide +kernel, Or.inr ⟨"StormHire", (nmw 128 (by decide +kernel) (by decide +kernel))⟩⟩
theorem fl_X5_120 : FL RX5 120 0 4 := ⟨RX0, TX0, 9, rfl, by decide, by decide +kernel, Or.inr ⟨"StormHire", (nmw 129 (by decide +kernel) (by decide +kernel))⟩⟩
theorem fl_X0_30 : FL RX0 30 0 5 := ⟨RX0, TX0, 9, rfl, by decide, by decide +kernel, Or.inl (gm 130 (by decide +kernel) (by decide +kernel))⟩
theorem fl_X5_231 : FL RX5 231 0 5 := ⟨RX0, TX0, 9, rfl, by decide, by decide +kernel, Or.inr ⟨"StormHire", (nmw 131 (by decide +kernel) (by decide +kernel))⟩⟩
theorem fl_X4_171 : FL RX4 171 0 5 := ⟨RX0, TX0, 9, rfl, by decide, by decide +kernel, Or.inr ⟨"StormHire", (nmw 132 (by decide +kernel) (by decide +kernel))⟩⟩
theorem fl_X0_33 : FL RX0 33 0 6 := ⟨RX0, TX0, 9, rfl, by decide, by decide +kernel, Or.inl (gm 133 (by decide +kernel) (by decide +kernel))⟩
theorem fl_X5_234 : FL RX5 234 0 6 := ⟨RX0, TX0, 9, rfl, by decide, by decide +kernel, Or.inr ⟨"StormHire", (nmw 134 (by decide +kernel) (by decide +kernel))⟩⟩
theorem fl_X4_168 : FL RX4 168 0 6 := ⟨RX0, TX0, 9, rfl, by decide, by decide +kernel, Or.inr ⟨"StormHire", (nmw 135 (by decide +kernel) (by decide +kernel))⟩⟩
theorem fl_X0_36 : FL RX0 36 0 7 := ⟨RX0, TX0, 9, rfl, by decide, by decide +kernel, Or.inl (gm 136 (by decide +kernel) (by decide +kernel))⟩
theorem fl_X5_237 : FL RX5 237 0 7 := ⟨RX0, TX0, 9, rfl, by decide, by decide +kernel, Or.inr ⟨"StormHire", (nmw 137 (by decide +kernel) (by decide +kernel))⟩⟩
theorem fl_X4_174 : FL RX4 174 0 7 := ⟨RX0, TX0, 9, rfl, by decide, by decide +kernel, Or.inr ⟨"StormHire", (nmw 138 (by decide +kernel) (by decide +kernel))⟩⟩
theorem fl_X0_15 : FL RX0 15 0 8 := ⟨RX0, TX0, 9, rfl, by decide, by decide +kernel, Or.inl (gm 139 (by decide +kernel) (by decide +kernel))⟩
theorem fl_X5_240 : FL RX5 240 0 8 := ⟨RX0, TX0, 9, rfl, by decide, by decide +kernel, Or.inr ⟨"StormHire", (nmw 140 (by decide +kernel) (by decide +kernel))⟩⟩
theorem fl_X4_32 : FL RX4 32 4 0 := ⟨RX4, TX4, 11, rfl, by decide, by decide +kernel, Or.inl (gm 160 (by decide +kernel) (by decide +kernel))⟩
theorem fl_X5_125 : FL RX5 125 4 0 := ⟨RX4, TX4, 11, rfl, by decide, by decide +kernel, Or.inr ⟨"StormHire", (nmw 161 (by decide +kernel) (by decide +kernel))⟩⟩
theorem fl_X4_9 : FL RX4 9 4 1 := ⟨RX4, TX4, 11, rfl, by decide, by decide +kernel, Or.inl (gm 162 (by decide +kernel) (by decide +kernel))⟩
theorem fl_X5_60 : FL RX5 60 4 1 := ⟨RX4, TX4, 11, rfl, by decide, by decide +kernel, Or.inr ⟨"StormHire", (nmw 163 (by decide +kernel) (by decide +kernel))⟩⟩
theorem fl_X4_15 : FL RX4 15 4 2 := ⟨RX4, TX4, 11, rfl, by decide, by decide +kernel, Or.inl (gm 164 (by decide +kernel) (by decide +kernel))⟩
theorem fl_X5_69 : FL RX5 69 4 2 := ⟨RX4, TX4, 11, rfl, by decide, by decide +kernel, Or.inr ⟨"StormHire", (nmw 165 (by decide +kernel) (by decide +kernel))⟩⟩
theorem fl_X5_48 : FL RX5 48 4 3 := ⟨RX4, TX4, 11, rfl, by decide, by decide +kernel, Or.inr ⟨"StormHire", (nmw 166 (by decide +kernel) (by decide +kernel))⟩⟩
theorem fl_X4_35 : FL RX4 35 4 3 := ⟨RX4, TX4, 11, rfl, by decide, by decide +kernel, Or.inl (gm 167 (by decide +kernel) (by decide +kernel))⟩
theorem fl_X4_38 : FL RX4 38 4 4 := ⟨RX4, TX4, 11, rfl, by decide, by decide +kernel, Or.inl (gm 168 (by decide +kernel) (by decide +kernel))⟩
theorem fl_X5_253 : FL RX5 253 4 4 := ⟨RX4, TX4, 11, rfl, by decide, by decide +kernel, Or.inr ⟨"StormHire", (nmw 169 (by decide +kernel) (by decide +kernel))⟩⟩
theorem fl_X4_41 : FL RX4 41 4 5 := ⟨RX4, TX4, 11, rfl, by decide, by decide +kernel, Or.inl (gm 170 (by decide +kernel) (by decide +kernel))⟩
theorem fl_X5_57 : FL RX5 57 4 5 := ⟨RX4, TX4, 11, rfl, by decide, by decide +kernel, Or.inr ⟨"StormHire", (nmw 171 (by decide +kernel) (by decide +kernel))⟩⟩
theorem fl_X4_44 : FL RX4 44 4 6 := ⟨RX4, TX4, 11, rfl, by decide, by decide +kernel, Or.inl (gm 172 (by decide +kernel) (by decide +kernel))⟩
theorem fl_X5_266 : FL RX5 266 4 6 := ⟨RX4, TX4, 11, rfl, by decide, by decide +kernel, Or.inr ⟨"StormHire", (nmw 173 (by decide +kernel) (by decide +kernel))⟩⟩
theorem fl_X4_47 : FL RX4 47 4 7 := ⟨RX4, TX4, 11, rfl, by decide, by decide +kernel, Or.inl (gm 174 (by decide +kernel) (by decide +kernel))⟩
theorem fl_X5_72 : FL RX5 72 4 7 := ⟨RX4, TX4, 11, rfl, by decide, by decide +kernel, Or.inr ⟨"StormHire", (nmw 175 (by decide +kernel) (by decide +kernel))⟩⟩
theorem fl_X4_50 : FL RX4 50 4 8 := ⟨RX4, TX4, 11, rfl, by decide, by decide +kernel, Or.inl (gm 176 (by decide +kernel) (by decide +kernel))⟩
theorem fl_X5_107 : FL RX5 107 4 8 := ⟨RX4, TX4, 11, rfl, by decide, by decide +kernel, Or.inr ⟨"StormHire", (nmw 177 (by decide +kernel) (by decide +kernel))⟩⟩
theorem fl_X4_20 : FL RX4 20 4 9 := ⟨RX4, TX4, 11, rfl, by decide, by decide +kernel, Or.inl (gm 178 (by decide +kernel) (by decide +kernel))⟩
theorem fl_X5_83 : FL RX5 83 4 9 := ⟨RX4, TX4, 11, rfl, by decide, by decide +kernel, Or.inr ⟨"StormHire", (nmw 179 (by decide +kernel) (by decide +kernel))⟩⟩
theorem fl_X4_26 : FL RX4 26 4 10 := ⟨RX4, TX4, 11, rfl, by decide, by decide +kernel, Or.inl (gm 180 (by decide +kernel) (by decide +kernel))⟩
theorem fl_X5_116 : FL RX5 116 4 10 := ⟨RX4, TX4, 11, rfl, by decide, by decide +kernel, Or.inr ⟨"StormHire", (nmw 181 (by decide +kernel) (by decide +kernel))⟩⟩
theorem cl_X5_26 : Cond.classLink RX5 26 RX2 ∈ gw := (gm 205 (by decide +kernel) (by decide +kernel))
theorem ml_X5_28 : ML RX5 28 yX2_init := Or.inl (gm 207 (by decide +kernel) (by decide +kernel))
theorem ml_X2_3 : Cond.methodLink RX2 3 objectInit ∈ gw := (gm 210 (by decide +kernel) (by decide +kernel))
theorem cl_X2_9 : Cond.classLink RX2 9 RX4 ∈ gw := (gm 211 (by decide +kernel) (by decide +kernel))
theorem ao_X4 : Cond.arrayOver (.object RX4) ∈ lw_tbl := List.mem_of_getElem? (i := 212) (by decide +kernel)
theorem ml_X2_17 : ML RX2 17 yX4_init := Or.inl (gm 213 (by decide +kernel) (by decide +kernel))
theorem fl_X2_11 : FL RX2 11 2 0 := ⟨RX2, TX2, 3, rfl, by decide, by decide +kernel, Or.inl (gm 214 (by decide +kernel) (by decide +kernel))⟩
theorem fl_X2_18 : FL RX2 18 2 1 := ⟨RX2, TX2, 3, rfl, by decide, by decide +kernel, Or.inl (gm 215 (by decide +kernel) (by decide +kernel))⟩
theorem fl_X2_22 : FL RX2 22 2 2 := ⟨RX2, TX2, 3, rfl, by decide, by decide +kernel, Or.inl (gm 216 (by decide +kernel) (by decide +kernel))⟩
theorem fl_X5_204 : FL RX5 204 2 2 := ⟨RX2, TX2, 3, rfl, by decide, by decide +kernel, Or.inr ⟨"StormHire", (nmw 217 (by decide +kernel) (by decide +kernel))⟩⟩
theorem cl_X5_33 : Cond.classLink RX5 33 RX3 ∈ gw := (gm 225 (by decide +kernel) (by decide +kernel))
theorem ml_X5_35 : ML RX5 35 yX3_init := Or.inl (gm 227 (by decide +kernel) (by decide +kernel))
theorem ml_X3_3 : Cond.methodLink RX3 3 objectInit ∈ gw := (gm 230 (by decide +kernel) (by decide +kernel))
theorem cl_X3_15 : Cond.classLink RX3 15 RX0 ∈ gw := (gm 231 (by decide +kernel) (by decide +kernel))
theorem ml_X3_21 : ML RX3 21 yX0_init := Or.inr ⟨"StormHire", (nmw 232 (by decide +kernel) (by decide +kernel))⟩
theorem fl_X3_9 : FL RX3 9 3 0 := ⟨RX3, TX3, 5, rfl, by decide, by decide +kernel, Or.inl (gm 233 (by decide +kernel) (by decide +kernel))⟩
theorem fl_X3_22 : FL RX3 22 3 1 := ⟨RX3, TX3, 5, rfl, by decide, by decide +kernel, Or.inl (gm 234 (by decide +kernel) (by decide +kernel))⟩
theorem fl_X5_178 : FL RX5 178 3 1 := ⟨RX3, TX3, 5, rfl, by decide, by decide +kernel, Or.inr ⟨"StormHire", (nmw 235 (by decide +kernel) (by decide +kernel))⟩⟩
theorem fl_X3_17 : FL RX3 17 3 2 := ⟨RX3, TX3, 5, rfl, by decide, by decide +kernel, Or.inl (gm 236 (by decide +kernel) (by decide +kernel))⟩
theorem fl_X5_191 : FL RX5 191 3 2 := ⟨RX3, TX3, 5, rfl, by decide, by decide +kernel, Or.inr ⟨"StormHire", (nmw 237 (by decide +kernel) (by decide +kernel))⟩⟩
theorem fl_X3_29 : FL RX3 29 3 3 := ⟨RX3, TX3, 5, rfl, by decide, by decide +kernel, Or.inl (gm 238 (by decide +kernel) (by decide +kernel))⟩
theorem fl_X5_188 : FL RX5 188 3 3 := ⟨RX3, TX3, 5, rfl, by decide, by decide +kernel, Or.inr ⟨"StormHire", (nmw 239 (by decide +kernel) (by decide +kernel))⟩⟩
theorem fl_X3_26 : FL RX3 26 3 4 := ⟨RX3, TX3, 5, rfl, by decide, by decide +kernel, Or.inl (gm 240 (by decide +kernel) (by decide +kernel))⟩
theorem fl_X5_185 : FL RX5 185 3 4 := ⟨RX3, TX3, 5, rfl, by decide, by decide +kernel, Or.inr ⟨"StormHire", (nmw 241 (by decide +kernel) (by decide +kernel))⟩⟩
theorem ac_char : Cond.arrayClass .char ∈ gw := (gm 253 (by decide +kernel) (by decide +kernel))
theorem fl_X5_10 : FL RX5 10 5 0 := ⟨RX5, TX5, 7, rfl, by decide, by decide +kernel, Or.inl (gm 254 (by decide +kernel) (by decide +kernel))⟩
theorem fl_X5_16 : FL RX5 16 5 1 := ⟨RX5, TX5, 7, rfl, by decide, by decide +kernel, Or.inl (gm 255 (by decide +kernel) (by decide +kernel))⟩
theorem fl_X5_19 : FL RX5 19 5 2 := ⟨RX5, TX5, 7, rfl, by decide, by decide +kernel, Or.inl (gm 256 (by decide +kernel) (by decide +kernel))⟩
theorem fl_X5_22 : FL RX5 22 5 3 := ⟨RX5, TX5, 7, rfl, by decide, by decide +kernel, Or.inl (gm 257 (by decide +kernel) (by decide +kernel))⟩
theorem fl_X5_29 : FL RX5 29 5 4 := ⟨RX5, TX5, 7, rfl, by decide, by decide +kernel, Or.inl (gm 258 (by decide +kernel) (by decide +kernel))⟩
theorem fl_X5_36 : FL RX5 36 5 5 := ⟨RX5, TX5, 7, rfl, by decide, by decide +kernel, Or.inl (gm 259 (by decide +kernel) (by decide +kernel))⟩
theorem fl_X5_40 : FL RX5 40 5 6 := ⟨RX5, TX5, 7, rfl, by decide, by decide +kernel, Or.inl (gm 260 (by decide +kernel) (by decide +kernel))⟩
theorem ac_int : Cond.arrayClass .int ∈ gw := (gm 276 (by decide +kernel) (by decide +kernel))
theorem ml_L_13 : ML RL 13 yX5_buy := Or.inl (gm 277 (by decide +kernel) (by decide +kernel))
theorem ml_X5_44 : ML RX5 44 yX5_isWithin := Or.inl (gm 281 (by decide +kernel) (by decide +kernel))
theorem ko_X5_52 : Cond.constant RX5 52 50000 ∈ gw := (gm 284 (by decide +kernel) (by decide +kernel))
theorem ml_X5_53 : ML RX5 53 yX2_push := Or.inl (gm 285 (by decide +kernel) (by decide +kernel))
theorem ml_X2_25 : ML RX2 25 yX4_copyFrom := Or.inl (gm 289 (by decide +kernel) (by decide +kernel))
theorem ml_X4_53 : ML RX4 53 yX1_copyFrom := Or.inl (gm 293 (by decide +kernel) (by decide +kernel))
theorem ml_X4_57 : ML RX4 57 yX0_copyFrom := Or.inl (gm 297 (by decide +kernel) (by decide +kernel))
theorem ml_L_18 : ML RL 18 yX5_weather := Or.inl (gm 301 (by decide +kernel) (by decide +kernel))
theorem ml_X5_63 : Cond.methodLink RX5 63 Lib.Math.abs.name ∈ gw := (gm 305 (by decide +kernel) (by decide +kernel))
theorem ml_L_22 : ML RL 22 yX5_setPrice := Or.inl (gm 308 (by decide +kernel) (by decide +kernel))
theorem ml_L_26 : ML RL 26 yX5_addSet := Or.inl (gm 312 (by decide +kernel) (by decide +kernel))
theorem ml_X5_75 : ML RX5 75 yX4_appendSet := Or.inl (gm 316 (by decide +kernel) (by decide +kernel))
theorem ml_X4_82 : ML RX4 82 yX1_moveTo := Or.inl (gm 320 (by decide +kernel) (by decide +kernel))
theorem ml_L_31 : ML RL 31 yX5_fill := Or.inl (gm 324 (by decide +kernel) (by decide +kernel))
theorem ml_X5_79 : ML RX5 79 yX4_isSet := Or.inl (gm 328 (by decide +kernel) (by decide +kernel))
theorem ml_X5_92 : ML RX5 92 yX1_room := Or.inl (gm 332 (by decide +kernel) (by decide +kernel))
theorem ml_X5_96 : Cond.methodLink RX5 96 Lib.Math.min.name ∈ gw := (gm 336 (by decide +kernel) (by decide +kernel))
theorem ml_L_35 : ML RL 35 yX5_addSite := Or.inl (gm 339 (by decide +kernel) (by decide +kernel))
theorem ml_X5_103 : ML RX5 103 yX4_allowsHours := Or.inl (gm 343 (by decide +kernel) (by decide +kernel))
theorem ml_X4_60 : ML RX4 60 yX5_isWithin := Or.inr ⟨"StormHire", (nmw 347 (by decide +kernel) (by decide +kernel))⟩
theorem ml_X5_110 : ML RX5 110 yX4_appendSite := Or.inl (gm 348 (by decide +kernel) (by decide +kernel))
theorem ml_X4_86 : ML RX4 86 yX0_begin := Or.inl (gm 352 (by decide +kernel) (by decide +kernel))
theorem ml_L_39 : ML RL 39 yX5_bring := Or.inl (gm 356 (by decide +kernel) (by decide +kernel))
theorem ml_X5_113 : ML RX5 113 yX4_isSite := Or.inl (gm 360 (by decide +kernel) (by decide +kernel))
theorem ml_X5_137 : ML RX5 137 yX4_send := Or.inl (gm 364 (by decide +kernel) (by decide +kernel))
theorem ml_X5_141 : ML RX5 141 yX4_yardSize := Or.inl (gm 368 (by decide +kernel) (by decide +kernel))
theorem ml_L_44 : ML RL 44 yX5_takeBack := Or.inl (gm 372 (by decide +kernel) (by decide +kernel))
theorem ml_X5_144 : ML RX5 144 yX4_release := Or.inl (gm 376 (by decide +kernel) (by decide +kernel))
theorem ml_X4_97 : ML RX4 97 yX4_supplyOf := Or.inl (gm 380 (by decide +kernel) (by decide +kernel))
theorem ml_X4_93 : ML RX4 93 yX4_isSet := Or.inl (gm 384 (by decide +kernel) (by decide +kernel))
theorem ml_L_48 : ML RL 48 yX5_giveOut := Or.inl (gm 385 (by decide +kernel) (by decide +kernel))
theorem ml_X5_148 : ML RX5 148 yX4_listOpen := Or.inl (gm 389 (by decide +kernel) (by decide +kernel))
theorem ml_X4_115 : ML RX4 115 yX0_isOpenIn := Or.inl (gm 393 (by decide +kernel) (by decide +kernel))
theorem ml_X4_118 : ML RX4 118 yX4_insert := Or.inl (gm 397 (by decide +kernel) (by decide +kernel))
theorem ml_X4_122 : ML RX4 122 yX4_isAhead := Or.inl (gm 401 (by decide +kernel) (by decide +kernel))
theorem ml_X4_126 : ML RX4 126 yX4_hoursLeftAt := Or.inl (gm 405 (by decide +kernel) (by decide +kernel))
theorem ml_X4_133 : ML RX4 133 yX1_hoursLeft := Or.inl (gm 409 (by decide +kernel) (by decide +kernel))
theorem ml_X4_129 : ML RX4 129 yX0_needsMoreThan := Or.inl (gm 413 (by decide +kernel) (by decide +kernel))
theorem ml_X5_152 : ML RX5 152 yX4_leastInYard := Or.inl (gm 417 (by decide +kernel) (by decide +kernel))
theorem ml_L_53 : ML RL 53 yX5_swap := Or.inl (gm 421 (by decide +kernel) (by decide +kernel))
theorem ml_X5_155 : ML RX5 155 yX4_giverFor := Or.inl (gm 425 (by decide +kernel) (by decide +kernel))
theorem ml_X4_107 : ML RX4 107 yX4_leastInYard := Or.inl (gm 429 (by decide +kernel) (by decide +kernel))
theorem ml_X5_158 : ML RX5 158 yX4_exchange := Or.inl (gm 430 (by decide +kernel) (by decide +kernel))
theorem ml_X4_111 : ML RX4 111 yX4_send := Or.inl (gm 434 (by decide +kernel) (by decide +kernel))
theorem ml_L_57 : ML RL 57 yX5_fuelRun := Or.inl (gm 435 (by decide +kernel) (by decide +kernel))
theorem ml_X5_161 : ML RX5 161 yX4_listSupplied := Or.inl (gm 439 (by decide +kernel) (by decide +kernel))
theorem ml_X5_164 : ML RX5 164 yX4_supplyOf := Or.inl (gm 443 (by decide +kernel) (by decide +kernel))
theorem ml_L_61 : ML RL 61 yX5_pass := Or.inl (gm 444 (by decide +kernel) (by decide +kernel))
theorem ml_X5_168 : ML RX5 168 yX4_litTotal := Or.inl (gm 448 (by decide +kernel) (by decide +kernel))
theorem ml_X5_171 : ML RX5 171 yX4_passHours := Or.inl (gm 452 (by decide +kernel) (by decide +kernel))
theorem ml_X4_140 : ML RX4 140 yX4_passHour := Or.inl (gm 456 (by decide +kernel) (by decide +kernel))
theorem ml_X4_143 : ML RX4 143 yX4_lightOrDarken := Or.inl (gm 460 (by decide +kernel) (by decide +kernel))
theorem ml_X4_152 : ML RX4 152 yX4_causeFor := Or.inl (gm 464 (by decide +kernel) (by decide +kernel))
theorem ml_X4_137 : ML RX4 137 yX1_causeAt := Or.inl (gm 468 (by decide +kernel) (by decide +kernel))
theorem ml_X4_156 : ML RX4 156 yX0_darken := Or.inl (gm 472 (by decide +kernel) (by decide +kernel))
theorem ml_X4_159 : ML RX4 159 yX1_burnHour := Or.inl (gm 476 (by decide +kernel) (by decide +kernel))
theorem ml_X4_162 : ML RX4 162 yX0_light := Or.inl (gm 480 (by decide +kernel) (by decide +kernel))
theorem ml_X4_149 : ML RX4 149 yX4_release := Or.inl (gm 484 (by decide +kernel) (by decide +kernel))
theorem ml_L_65 : ML RL 65 yX5_type := Or.inl (gm 485 (by decide +kernel) (by decide +kernel))
theorem ml_X5_174 : ML RX5 174 yX3_append := Or.inl (gm 489 (by decide +kernel) (by decide +kernel))
theorem ml_L_70 : ML RL 70 yX5_clearText := Or.inl (gm 493 (by decide +kernel) (by decide +kernel))
theorem ml_L_74 : ML RL 74 yX5_readSites := Or.inl (gm 497 (by decide +kernel) (by decide +kernel))
theorem ml_X5_181 : ML RX5 181 yX3_read := Or.inl (gm 501 (by decide +kernel) (by decide +kernel))
theorem ml_X3_32 : ML RX3 32 yX3_readSite := Or.inl (gm 505 (by decide +kernel) (by decide +kernel))
theorem ml_X3_40 : ML RX3 40 yX3_readNumber := Or.inl (gm 509 (by decide +kernel) (by decide +kernel))
theorem ml_X3_48 : ML RX3 48 yX3_isDigitFrom := Or.inl (gm 513 (by decide +kernel) (by decide +kernel))
theorem ml_X3_36 : ML RX3 36 yX3_skip := Or.inl (gm 517 (by decide +kernel) (by decide +kernel))
theorem ml_X3_44 : ML RX3 44 yX0_begin := Or.inl (gm 521 (by decide +kernel) (by decide +kernel))
theorem ml_L_78 : ML RL 78 yX5_undo := Or.inl (gm 522 (by decide +kernel) (by decide +kernel))
theorem ml_X5_200 : ML RX5 200 yX2_popInto := Or.inl (gm 526 (by decide +kernel) (by decide +kernel))
theorem ml_L_82 : ML RL 82 yX5_keep := Or.inl (gm 530 (by decide +kernel) (by decide +kernel))
theorem ml_X5_207 : ML RX5 207 yX4_copyFrom := Or.inl (gm 534 (by decide +kernel) (by decide +kernel))
theorem ml_L_86 : ML RL 86 yX5_restore := Or.inl (gm 535 (by decide +kernel) (by decide +kernel))
theorem ml_L_90 : ML RL 90 yX5_set := Or.inl (gm 539 (by decide +kernel) (by decide +kernel))
theorem ml_X5_228 : ML RX5 228 yX1_hoursLeft := Or.inl (gm 543 (by decide +kernel) (by decide +kernel))
theorem ml_L_94 : ML RL 94 yX5_site := Or.inl (gm 544 (by decide +kernel) (by decide +kernel))
theorem ml_X5_243 : ML RX5 243 yX0_isOpenIn := Or.inl (gm 548 (by decide +kernel) (by decide +kernel))
theorem ml_L_98 : ML RL 98 yX5_why := Or.inl (gm 549 (by decide +kernel) (by decide +kernel))
theorem ml_X5_246 : ML RX5 246 yX4_causeFor := Or.inl (gm 553 (by decide +kernel) (by decide +kernel))
theorem ml_L_102 : ML RL 102 yX5_needy := Or.inl (gm 554 (by decide +kernel) (by decide +kernel))
theorem ml_L_106 : ML RL 106 yX5_thirsty := Or.inl (gm 558 (by decide +kernel) (by decide +kernel))
theorem ml_L_110 : ML RL 110 yX5_forecast := Or.inl (gm 562 (by decide +kernel) (by decide +kernel))
theorem ml_X5_250 : ML RX5 250 yX4_darkTotal := Or.inl (gm 566 (by decide +kernel) (by decide +kernel))
theorem ml_X5_256 : ML RX5 256 yX4_darkestSince := Or.inl (gm 570 (by decide +kernel) (by decide +kernel))
theorem ml_L_114 : ML RL 114 yX5_count := Or.inl (gm 574 (by decide +kernel) (by decide +kernel))
theorem ml_X5_260 : ML RX5 260 yX4_fuelInTanks := Or.inl (gm 578 (by decide +kernel) (by decide +kernel))
theorem ml_X5_263 : ML RX5 263 yX4_billTotal := Or.inl (gm 582 (by decide +kernel) (by decide +kernel))
theorem cl_L_10 : Cond.classLink RL 10 RX6 ∈ gw := (gm 586 (by decide +kernel) (by decide +kernel))
theorem ml_L_12 : ML RL 12 yX6_init := Or.inl (gm 588 (by decide +kernel) (by decide +kernel))
theorem ml_X6_1 : Cond.methodLink RX6 1 objectInit ∈ gw := (gm 591 (by decide +kernel) (by decide +kernel))
theorem fl_X6_7 : FL RX6 7 6 0 := ⟨RX6, TX6, 12, rfl, by decide, by decide +kernel, Or.inl (gm 592 (by decide +kernel) (by decide +kernel))⟩
theorem fl_X6_13 : FL RX6 13 6 1 := ⟨RX6, TX6, 12, rfl, by decide, by decide +kernel, Or.inl (gm 593 (by decide +kernel) (by decide +kernel))⟩
theorem fl_X6_32 : FL RX6 32 6 2 := ⟨RX6, TX6, 12, rfl, by decide, by decide +kernel, Or.inl (gm 594 (by decide +kernel) (by decide +kernel))⟩
theorem fl_X6_16 : FL RX6 16 6 3 := ⟨RX6, TX6, 12, rfl, by decide, by decide +kernel, Or.inl (gm 595 (by decide +kernel) (by decide +kernel))⟩
theorem fl_X6_160 : FL RX6 160 6 4 := ⟨RX6, TX6, 12, rfl, by decide, by decide +kernel, Or.inl (gm 596 (by decide +kernel) (by decide +kernel))⟩
theorem fl_X6_19 : FL RX6 19 6 5 := ⟨RX6, TX6, 12, rfl, by decide, by decide +kernel, Or.inl (gm 597 (by decide +kernel) (by decide +kernel))⟩
theorem fl_X6_22 : FL RX6 22 6 6 := ⟨RX6, TX6, 12, rfl, by decide, by decide +kernel, Or.inl (gm 598 (by decide +kernel) (by decide +kernel))⟩
theorem fl_X6_140 : FL RX6 140 6 7 := ⟨RX6, TX6, 12, rfl, by decide, by decide +kernel, Or.inl (gm 599 (by decide +kernel) (by decide +kernel))⟩
theorem fl_X6_25 : FL RX6 25 6 8 := ⟨RX6, TX6, 12, rfl, by decide, by decide +kernel, Or.inl (gm 600 (by decide +kernel) (by decide +kernel))⟩
theorem fl_X6_143 : FL RX6 143 6 9 := ⟨RX6, TX6, 12, rfl, by decide, by decide +kernel, Or.inl (gm 601 (by decide +kernel) (by decide +kernel))⟩
theorem fl_X6_146 : FL RX6 146 6 10 := ⟨RX6, TX6, 12, rfl, by decide, by decide +kernel, Or.inl (gm 602 (by decide +kernel) (by decide +kernel))⟩
theorem fl_X6_29 : FL RX6 29 6 11 := ⟨RX6, TX6, 12, rfl, by decide, by decide +kernel, Or.inl (gm 603 (by decide +kernel) (by decide +kernel))⟩
theorem ml_L_17 : ML RL 17 yX6_buy := Or.inl (gm 629 (by decide +kernel) (by decide +kernel))
theorem ml_X6_36 : ML RX6 36 yX6_in := Or.inl (gm 633 (by decide +kernel) (by decide +kernel))
theorem ko_X6_40 : Cond.constant RX6 40 50000 ∈ gw := (gm 636 (by decide +kernel) (by decide +kernel))
theorem ml_X6_41 : ML RX6 41 yX6_record := Or.inl (gm 637 (by decide +kernel) (by decide +kernel))
theorem ml_L_21 : ML RL 21 yX6_weather := Or.inl (gm 641 (by decide +kernel) (by decide +kernel))
theorem ml_L_25 : ML RL 25 yX6_setPrice := Or.inl (gm 645 (by decide +kernel) (by decide +kernel))
theorem ml_L_30 : ML RL 30 yX6_addSet := Or.inl (gm 649 (by decide +kernel) (by decide +kernel))
theorem ml_X6_44 : ML RX6 44 yX6_toSet := Or.inl (gm 653 (by decide +kernel) (by decide +kernel))
theorem ml_L_34 : ML RL 34 yX6_fill := Or.inl (gm 657 (by decide +kernel) (by decide +kernel))
theorem ml_X6_52 : ML RX6 52 yX6_noSet := Or.inl (gm 661 (by decide +kernel) (by decide +kernel))
theorem ml_X6_48 : ML RX6 48 yX6_ofSet := Or.inl (gm 665 (by decide +kernel) (by decide +kernel))
theorem ml_X6_56 : ML RX6 56 yX6_roomIn := Or.inl (gm 669 (by decide +kernel) (by decide +kernel))
theorem ml_X6_60 : ML RX6 60 yX6_least := Or.inl (gm 673 (by decide +kernel) (by decide +kernel))
theorem ml_X6_63 : ML RX6 63 yX6_fills := Or.inl (gm 676 (by decide +kernel) (by decide +kernel))
theorem ml_L_38 : ML RL 38 yX6_addSite := Or.inl (gm 680 (by decide +kernel) (by decide +kernel))
theorem ml_X6_70 : ML RX6 70 yX6_areHours := Or.inl (gm 684 (by decide +kernel) (by decide +kernel))
theorem ml_X6_74 : ML RX6 74 yX6_adds := Or.inl (gm 688 (by decide +kernel) (by decide +kernel))
theorem ml_X6_67 : ML RX6 67 yX6_toSite := Or.inl (gm 692 (by decide +kernel) (by decide +kernel))
theorem ml_L_43 : ML RL 43 yX6_bring := Or.inl (gm 696 (by decide +kernel) (by decide +kernel))
theorem ml_X6_84 : ML RX6 84 yX6_noSite := Or.inl (gm 700 (by decide +kernel) (by decide +kernel))
theorem ml_X6_81 : ML RX6 81 yX6_setAt := Or.inl (gm 704 (by decide +kernel) (by decide +kernel))
theorem ml_X6_78 : ML RX6 78 yX6_ofSite := Or.inl (gm 708 (by decide +kernel) (by decide +kernel))
theorem ml_X6_87 : ML RX6 87 yX6_fits := Or.inl (gm 712 (by decide +kernel) (by decide +kernel))
theorem ml_X6_90 : ML RX6 90 yX6_comes := Or.inl (gm 716 (by decide +kernel) (by decide +kernel))
theorem ml_X6_93 : ML RX6 93 yX6_inYard := Or.inl (gm 720 (by decide +kernel) (by decide +kernel))
theorem ml_L_47 : ML RL 47 yX6_takeBack := Or.inl (gm 724 (by decide +kernel) (by decide +kernel))
theorem ml_X6_97 : ML RX6 97 yX6_goesBack := Or.inl (gm 728 (by decide +kernel) (by decide +kernel))
theorem ml_L_52 : ML RL 52 yX6_giveOut := Or.inl (gm 732 (by decide +kernel) (by decide +kernel))
theorem ml_X6_101 : ML RX6 101 yX6_isOpen := Or.inl (gm 736 (by decide +kernel) (by decide +kernel))
theorem ml_X6_107 : ML RX6 107 yX6_wants := Or.inl (gm 740 (by decide +kernel) (by decide +kernel))
theorem ml_X6_110 : ML RX6 110 yX6_yardFor := Or.inl (gm 744 (by decide +kernel) (by decide +kernel))
theorem ml_X6_113 : ML RX6 113 yX6_needyAt := Or.inl (gm 748 (by decide +kernel) (by decide +kernel))
theorem ml_X6_104 : ML RX6 104 yX6_isNeedier := Or.inl (gm 752 (by decide +kernel) (by decide +kernel))
theorem ml_L_56 : ML RL 56 yX6_swap := Or.inl (gm 756 (by decide +kernel) (by decide +kernel))
theorem ml_X6_116 : ML RX6 116 yX6_partnerOf := Or.inl (gm 760 (by decide +kernel) (by decide +kernel))
theorem ml_L_60 : ML RL 60 yX6_fuelRun := Or.inl (gm 764 (by decide +kernel) (by decide +kernel))
theorem ml_X6_122 : ML RX6 122 yX6_thirstyAt := Or.inl (gm 768 (by decide +kernel) (by decide +kernel))
theorem ml_X6_119 : ML RX6 119 yX6_hoursLeft := Or.inl (gm 772 (by decide +kernel) (by decide +kernel))
theorem ml_L_64 : ML RL 64 yX6_pass := Or.inl (gm 776 (by decide +kernel) (by decide +kernel))
theorem ml_X6_137 : ML RX6 137 yX6_goesOnFor := Or.inl (gm 780 (by decide +kernel) (by decide +kernel))
theorem ml_X6_134 : ML RX6 134 yX6_goesOn := Or.inl (gm 784 (by decide +kernel) (by decide +kernel))
theorem ml_X6_125 : ML RX6 125 yX6_against := Or.inl (gm 788 (by decide +kernel) (by decide +kernel))
theorem ml_X6_128 : ML RX6 128 yX6_isLit := Or.inl (gm 792 (by decide +kernel) (by decide +kernel))
theorem ml_X6_131 : ML RX6 131 yX6_isDark := Or.inl (gm 796 (by decide +kernel) (by decide +kernel))
theorem ml_L_69 : ML RL 69 yX6_type := Or.inl (gm 800 (by decide +kernel) (by decide +kernel))
theorem ml_L_73 : ML RL 73 yX6_clearText := Or.inl (gm 804 (by decide +kernel) (by decide +kernel))
theorem ml_L_77 : ML RL 77 yX6_readSites := Or.inl (gm 808 (by decide +kernel) (by decide +kernel))
theorem ml_X6_156 : ML RX6 156 yX6_readsSite := Or.inl (gm 812 (by decide +kernel) (by decide +kernel))
theorem ml_X6_149 : ML RX6 149 yX6_number := Or.inl (gm 816 (by decide +kernel) (by decide +kernel))
theorem ml_X6_152 : ML RX6 152 yX6_takes := Or.inl (gm 820 (by decide +kernel) (by decide +kernel))
theorem ml_L_81 : ML RL 81 yX6_undo := Or.inl (gm 824 (by decide +kernel) (by decide +kernel))
theorem ml_L_85 : ML RL 85 yX6_keep := Or.inl (gm 828 (by decide +kernel) (by decide +kernel))
theorem ml_L_89 : ML RL 89 yX6_restore := Or.inl (gm 832 (by decide +kernel) (by decide +kernel))
theorem ml_L_93 : ML RL 93 yX6_set := Or.inl (gm 836 (by decide +kernel) (by decide +kernel))
theorem ml_L_97 : ML RL 97 yX6_site := Or.inl (gm 840 (by decide +kernel) (by decide +kernel))
theorem ml_L_101 : ML RL 101 yX6_why := Or.inl (gm 844 (by decide +kernel) (by decide +kernel))
theorem ml_L_105 : ML RL 105 yX6_needy := Or.inl (gm 848 (by decide +kernel) (by decide +kernel))
theorem ml_L_109 : ML RL 109 yX6_thirsty := Or.inl (gm 852 (by decide +kernel) (by decide +kernel))
theorem ml_L_113 : ML RL 113 yX6_forecast := Or.inl (gm 856 (by decide +kernel) (by decide +kernel))
theorem ml_X6_164 : ML RX6 164 yX6_darkest := Or.inl (gm 860 (by decide +kernel) (by decide +kernel))
theorem ml_L_117 : ML RL 117 yX6_count := Or.inl (gm 864 (by decide +kernel) (by decide +kernel))
theorem ml_X6_167 : ML RX6 167 yX6_inTanks := Or.inl (gm 868 (by decide +kernel) (by decide +kernel))
theorem ml_X6_170 : ML RX6 170 yX6_openSites := Or.inl (gm 872 (by decide +kernel) (by decide +kernel))
theorem oi_in : Cond.instanceMethod objectInit ∈ gw := (gm 50 (by decide +kernel) (by decide +kernel))
theorem oi_code : Cond.code objectInit ⟨#[0xb1]⟩ 1 none ∈ gw := gm 51 (by decide +kernel) (by decide +kernel)
theorem yi_X5_init : YI yX5_init cX5_init 1 0 := ⟨⟨gm 48 (by decide +kernel) (by decide +kernel), (gm 36 (by decide +kernel) (by decide +kernel)), by decide +kernel, by decide +kernel, by decide +kernel⟩, (gm 47 (by decide +kernel) (by decide +kernel)), by decide +kernel⟩
theorem yi_X4_init : YI yX4_init cX4_init 2 0 := ⟨⟨gm 56 (by decide +kernel) (by decide +kernel), (gm 37 (by decide +kernel) (by decide +kernel)), by decide +kernel, by decide +kernel, by decide +kernel⟩, (gm 55 (by decide +kernel) (by decide +kernel)), by decide +kernel⟩
theorem yi_X1_init : YI yX1_init cX1_init 1 0 := ⟨⟨gm 65 (by decide +kernel) (by decide +kernel), (gm 38 (by decide +kernel) (by decide +kernel)), by decide +kernel, by decide +kernel, by decide +kernel⟩, (gm 64 (by decide +kernel) (by decide +kernel)), by decide +kernel⟩
theorem yi_X0_init : YI yX0_init cX0_init 1 0 := ⟨⟨gm 115 (by decide +kernel) (by decide +kernel), (gm 39 (by decide +kernel) (by decide +kernel)), by decide +kernel, by decide +kernel, by decide +kernel⟩, (gm 114 (by decide +kernel) (by decide +kernel)), by decide +kernel⟩
theorem yi_X2_init : YI yX2_init cX2_init 2 0 := ⟨⟨gm 209 (by decide +kernel) (by decide +kernel), (gm 40 (by decide +kernel) (by decide +kernel)), by decide +kernel, by decide +kernel, by decide +kernel⟩, (gm 208 (by decide +kernel) (by decide +kernel)), by decide +kernel⟩
theorem yi_X3_init : YI yX3_init cX3_init 2 0 := ⟨⟨gm 229 (by decide +kernel) (by decide +kernel), (gm 41 (by decide +kernel) (by decide +kernel)), by decide +kernel, by decide +kernel, by decide +kernel⟩, (gm 228 (by decide +kernel) (by decide +kernel)), by decide +kernel⟩
theorem yv_X5_buy : YV yX5_buy cX5_buy 2 (some .int) 1 := ⟨⟨gm 280 (by decide +kernel) (by decide +kernel), (gm 36 (by decide +kernel) (by decide +kernel)), by decide +kernel, by decide +kernel, by decide +kernel⟩, (gm 278 (by decide +kernel) (by decide +kernel)), (gm 279 (by decide +kernel) (by decide +kernel))⟩
theorem ys_X5_isWithin : YS yX5_isWithin cX5_isWithin 3 (some .boolean) 3 := ⟨⟨gm 283 (by decide +kernel) (by decide +kernel), (gm 36 (by decide +kernel) (by decide +kernel)), by decide +kernel, by decide +kernel, by decide +kernel⟩, (gm 282 (by decide +kernel) (by decide +kernel))⟩
theorem yv_X2_push : YV yX2_push cX2_push 2 none 1 := ⟨⟨gm 288 (by decide +kernel) (by decide +kernel), (gm 40 (by decide +kernel) (by decide +kernel)), by decide +kernel, by decide +kernel, by decide +kernel⟩, (gm 286 (by decide +kernel) (by decide +kernel)), (gm 287 (by decide +kernel) (by decide +kernel))⟩
theorem yv_X4_copyFrom : YV yX4_copyFrom cX4_copyFrom 3 none 1 := ⟨⟨gm 292 (by decide +kernel) (by decide +kernel), (gm 37 (by decide +kernel) (by decide +kernel)), by decide +kernel, by decide +kernel, by decide +kernel⟩, (gm 290 (by decide +kernel) (by decide +kernel)), (gm 291 (by decide +kernel) (by decide +kernel))⟩
theorem yv_X1_copyFrom : YV yX1_copyFrom cX1_copyFrom 2 none 1 := ⟨⟨gm 296 (by decide +kernel) (by decide +kernel), (gm 38 (by decide +kernel) (by decide +kernel)), by decide +kernel, by decide +kernel, by decide +kernel⟩, (gm 294 (by decide +kernel) (by decide +kernel)), (gm 295 (by decide +kernel) (by decide +kernel))⟩
theorem yv_X0_copyFrom : YV yX0_copyFrom cX0_copyFrom 2 none 1 := ⟨⟨gm 300 (by decide +kernel) (by decide +kernel), (gm 39 (by decide +kernel) (by decide +kernel)), by decide +kernel, by decide +kernel, by decide +kernel⟩, (gm 298 (by decide +kernel) (by decide +kernel)), (gm 299 (by decide +kernel) (by decide +kernel))⟩
theorem yv_X5_weather : YV yX5_weather cX5_weather 3 (some .int) 1 := ⟨⟨gm 304 (by decide +kernel) (by decide +kernel), (gm 36 (by decide +kernel) (by decide +kernel)), by decide +kernel, by decide +kernel, by decide +kernel⟩, (gm 302 (by decide +kernel) (by decide +kernel)), (gm 303 (by decide +kernel) (by decide +kernel))⟩
theorem yc_abs : Cond.code Lib.Math.abs.name Lib.Math.abs.code 1 (some .int) ∈ gw := gm 307 (by decide +kernel) (by decide +kernel)
theorem ys_abs : Cond.static Lib.Math.abs.name ∈ gw := (gm 306 (by decide +kernel) (by decide +kernel))
theorem yv_X5_setPrice : YV yX5_setPrice cX5_setPrice 3 (some .int) 1 := ⟨⟨gm 311 (by decide +kernel) (by decide +kernel), (gm 36 (by decide +kernel) (by decide +kernel)), by decide +kernel, by decide +kernel, by decide +kernel⟩, (gm 309 (by decide +kernel) (by decide +kernel)), (gm 310 (by decide +kernel) (by decide +kernel))⟩
theorem yv_X5_addSet : YV yX5_addSet cX5_addSet 6 (some .int) 4 := ⟨⟨gm 315 (by decide +kernel) (by decide +kernel), (gm 36 (by decide +kernel) (by decide +kernel)), by decide +kernel, by decide +kernel, by decide +kernel⟩, (gm 313 (by decide +kernel) (by decide +kernel)), (gm 314 (by decide +kernel) (by decide +kernel))⟩
theorem yv_X4_appendSet : YV yX4_appendSet cX4_appendSet 6 (some .int) 4 := ⟨⟨gm 319 (by decide +kernel) (by decide +kernel), (gm 37 (by decide +kernel) (by decide +kernel)), by decide +kernel, by decide +kernel, by decide +kernel⟩, (gm 317 (by decide +kernel) (by decide +kernel)), (gm 318 (by decide +kernel) (by decide +kernel))⟩
theorem yv_X1_moveTo : YV yX1_moveTo cX1_moveTo 2 none 1 := ⟨⟨gm 323 (by decide +kernel) (by decide +kernel), (gm 38 (by decide +kernel) (by decide +kernel)), by decide +kernel, by decide +kernel, by decide +kernel⟩, (gm 321 (by decide +kernel) (by decide +kernel)), (gm 322 (by decide +kernel) (by decide +kernel))⟩
theorem yv_X5_fill : YV yX5_fill cX5_fill 4 (some .int) 1 := ⟨⟨gm 327 (by decide +kernel) (by decide +kernel), (gm 36 (by decide +kernel) (by decide +kernel)), by decide +kernel, by decide +kernel, by decide +kernel⟩, (gm 325 (by decide +kernel) (by decide +kernel)), (gm 326 (by decide +kernel) (by decide +kernel))⟩
theorem yv_X4_isSet : YV yX4_isSet cX4_isSet 2 (some .boolean) 1 := ⟨⟨gm 331 (by decide +kernel) (by decide +kernel), (gm 37 (by decide +kernel) (by decide +kernel)), by decide +kernel, by decide +kernel, by decide +kernel⟩, (gm 329 (by decide +kernel) (by decide +kernel)), (gm 330 (by decide +kernel) (by decide +kernel))⟩
theorem yv_X1_room : YV yX1_room cX1_room 1 (some .int) 0 := ⟨⟨gm 335 (by decide +kernel) (by decide +kernel), (gm 38 (by decide +kernel) (by decide +kernel)), by decide +kernel, by decide +kernel, by decide +kernel⟩, (gm 333 (by decide +kernel) (by decide +kernel)), (gm 334 (by decide +kernel) (by decide +kernel))⟩
theorem yc_min : Cond.code Lib.Math.min.name Lib.Math.min.code 2 (some .int) ∈ gw := gm 338 (by decide +kernel) (by decide +kernel)
theorem ys_min : Cond.static Lib.Math.min.name ∈ gw := (gm 337 (by decide +kernel) (by decide +kernel))
theorem yv_X5_addSite : YV yX5_addSite cX5_addSite 5 (some .int) 4 := ⟨⟨gm 342 (by decide +kernel) (by decide +kernel), (gm 36 (by decide +kernel) (by decide +kernel)), by decide +kernel, by decide +kernel, by decide +kernel⟩, (gm 340 (by decide +kernel) (by decide +kernel)), (gm 341 (by decide +kernel) (by decide +kernel))⟩
theorem yv_X4_allowsHours : YV yX4_allowsHours cX4_allowsHours 3 (some .boolean) 2 := ⟨⟨gm 346 (by decide +kernel) (by decide +kernel), (gm 37 (by decide +kernel) (by decide +kernel)), by decide +kernel, by decide +kernel, by decide +kernel⟩, (gm 344 (by decide +kernel) (by decide +kernel)), (gm 345 (by decide +kernel) (by decide +kernel))⟩
theorem yv_X4_appendSite : YV yX4_appendSite cX4_appendSite 5 (some .int) 4 := ⟨⟨gm 351 (by decide +kernel) (by decide +kernel), (gm 37 (by decide +kernel) (by decide +kernel)), by decide +kernel, by decide +kernel, by decide +kernel⟩, (gm 349 (by decide +kernel) (by decide +kernel)), (gm 350 (by decide +kernel) (by decide +kernel))⟩
theorem yv_X0_begin : YV yX0_begin cX0_begin 5 none 4 := ⟨⟨gm 355 (by decide +kernel) (by decide +kernel), (gm 39 (by decide +kernel) (by decide +kernel)), by decide +kernel, by decide +kernel, by decide +kernel⟩, (gm 353 (by decide +kernel) (by decide +kernel)), (gm 354 (by decide +kernel) (by decide +kernel))⟩
theorem yv_X5_bring : YV yX5_bring cX5_bring 6 (some .int) 2 := ⟨⟨gm 359 (by decide +kernel) (by decide +kernel), (gm 36 (by decide +kernel) (by decide +kernel)), by decide +kernel, by decide +kernel, by decide +kernel⟩, (gm 357 (by decide +kernel) (by decide +kernel)), (gm 358 (by decide +kernel) (by decide +kernel))⟩
theorem yv_X4_isSite : YV yX4_isSite cX4_isSite 2 (some .boolean) 1 := ⟨⟨gm 363 (by decide +kernel) (by decide +kernel), (gm 37 (by decide +kernel) (by decide +kernel)), by decide +kernel, by decide +kernel, by decide +kernel⟩, (gm 361 (by decide +kernel) (by decide +kernel)), (gm 362 (by decide +kernel) (by decide +kernel))⟩
theorem yv_X4_send : YV yX4_send cX4_send 3 none 2 := ⟨⟨gm 367 (by decide +kernel) (by decide +kernel), (gm 37 (by decide +kernel) (by decide +kernel)), by decide +kernel, by decide +kernel, by decide +kernel⟩, (gm 365 (by decide +kernel) (by decide +kernel)), (gm 366 (by decide +kernel) (by decide +kernel))⟩
theorem yv_X4_yardSize : YV yX4_yardSize cX4_yardSize 3 (some .int) 0 := ⟨⟨gm 371 (by decide +kernel) (by decide +kernel), (gm 37 (by decide +kernel) (by decide +kernel)), by decide +kernel, by decide +kernel, by decide +kernel⟩, (gm 369 (by decide +kernel) (by decide +kernel)), (gm 370 (by decide +kernel) (by decide +kernel))⟩
theorem yv_X5_takeBack : YV yX5_takeBack cX5_takeBack 3 (some .int) 1 := ⟨⟨gm 375 (by decide +kernel) (by decide +kernel), (gm 36 (by decide +kernel) (by decide +kernel)), by decide +kernel, by decide +kernel, by decide +kernel⟩, (gm 373 (by decide +kernel) (by decide +kernel)), (gm 374 (by decide +kernel) (by decide +kernel))⟩
theorem yv_X4_release : YV yX4_release cX4_release 3 none 1 := ⟨⟨gm 379 (by decide +kernel) (by decide +kernel), (gm 37 (by decide +kernel) (by decide +kernel)), by decide +kernel, by decide +kernel, by decide +kernel⟩, (gm 377 (by decide +kernel) (by decide +kernel)), (gm 378 (by decide +kernel) (by decide +kernel))⟩
theorem yv_X4_supplyOf : YV yX4_supplyOf cX4_supplyOf 2 (some (.object RX1)) 1 := ⟨⟨gm 383 (by decide +kernel) (by decide +kernel), (gm 37 (by decide +kernel) (by decide +kernel)), by decide +kernel, by decide +kernel, by decide +kernel⟩, (gm 381 (by decide +kernel) (by decide +kernel)), (gm 382 (by decide +kernel) (by decide +kernel))⟩
theorem yv_X5_giveOut : YV yX5_giveOut cX5_giveOut 6 (some .int) 0 := ⟨⟨gm 388 (by decide +kernel) (by decide +kernel), (gm 36 (by decide +kernel) (by decide +kernel)), by decide +kernel, by decide +kernel, by decide +kernel⟩, (gm 386 (by decide +kernel) (by decide +kernel)), (gm 387 (by decide +kernel) (by decide +kernel))⟩
theorem yv_X4_listOpen : YV yX4_listOpen cX4_listOpen 4 (some .int) 1 := ⟨⟨gm 392 (by decide +kernel) (by decide +kernel), (gm 37 (by decide +kernel) (by decide +kernel)), by decide +kernel, by decide +kernel, by decide +kernel⟩, (gm 390 (by decide +kernel) (by decide +kernel)), (gm 391 (by decide +kernel) (by decide +kernel))⟩
theorem yv_X0_isOpenIn : YV yX0_isOpenIn cX0_isOpenIn 2 (some .boolean) 1 := ⟨⟨gm 396 (by decide +kernel) (by decide +kernel), (gm 39 (by decide +kernel) (by decide +kernel)), by decide +kernel, by decide +kernel, by decide +kernel⟩, (gm 394 (by decide +kernel) (by decide +kernel)), (gm 395 (by decide +kernel) (by decide +kernel))⟩
theorem yv_X4_insert : YV yX4_insert cX4_insert 6 none 4 := ⟨⟨gm 400 (by decide +kernel) (by decide +kernel), (gm 37 (by decide +kernel) (by decide +kernel)), by decide +kernel, by decide +kernel, by decide +kernel⟩, (gm 398 (by decide +kernel) (by decide +kernel)), (gm 399 (by decide +kernel) (by decide +kernel))⟩
theorem yv_X4_isAhead : YV yX4_isAhead cX4_isAhead 5 (some .boolean) 3 := ⟨⟨gm 404 (by decide +kernel) (by decide +kernel), (gm 37 (by decide +kernel) (by decide +kernel)), by decide +kernel, by decide +kernel, by decide +kernel⟩, (gm 402 (by decide +kernel) (by decide +kernel)), (gm 403 (by decide +kernel) (by decide +kernel))⟩
theorem yv_X4_hoursLeftAt : YV yX4_hoursLeftAt cX4_hoursLeftAt 3 (some .int) 1 := ⟨⟨gm 408 (by decide +kernel) (by decide +kernel), (gm 37 (by decide +kernel) (by decide +kernel)), by decide +kernel, by decide +kernel, by decide +kernel⟩, (gm 406 (by decide +kernel) (by decide +kernel)), (gm 407 (by decide +kernel) (by decide +kernel))⟩
theorem yv_X1_hoursLeft : YV yX1_hoursLeft cX1_hoursLeft 1 (some .int) 0 := ⟨⟨gm 412 (by decide +kernel) (by decide +kernel), (gm 38 (by decide +kernel) (by decide +kernel)), by decide +kernel, by decide +kernel, by decide +kernel⟩, (gm 410 (by decide +kernel) (by decide +kernel)), (gm 411 (by decide +kernel) (by decide +kernel))⟩
theorem yv_X0_needsMoreThan : YV yX0_needsMoreThan cX0_needsMoreThan 2 (some .boolean) 1 := ⟨⟨gm 416 (by decide +kernel) (by decide +kernel), (gm 39 (by decide +kernel) (by decide +kernel)), by decide +kernel, by decide +kernel, by decide +kernel⟩, (gm 414 (by decide +kernel) (by decide +kernel)), (gm 415 (by decide +kernel) (by decide +kernel))⟩
theorem yv_X4_leastInYard : YV yX4_leastInYard cX4_leastInYard 5 (some .int) 1 := ⟨⟨gm 420 (by decide +kernel) (by decide +kernel), (gm 37 (by decide +kernel) (by decide +kernel)), by decide +kernel, by decide +kernel, by decide +kernel⟩, (gm 418 (by decide +kernel) (by decide +kernel)), (gm 419 (by decide +kernel) (by decide +kernel))⟩
theorem yv_X5_swap : YV yX5_swap cX5_swap 6 (some .int) 0 := ⟨⟨gm 424 (by decide +kernel) (by decide +kernel), (gm 36 (by decide +kernel) (by decide +kernel)), by decide +kernel, by decide +kernel, by decide +kernel⟩, (gm 422 (by decide +kernel) (by decide +kernel)), (gm 423 (by decide +kernel) (by decide +kernel))⟩
theorem yv_X4_giverFor : YV yX4_giverFor cX4_giverFor 7 (some .int) 1 := ⟨⟨gm 428 (by decide +kernel) (by decide +kernel), (gm 37 (by decide +kernel) (by decide +kernel)), by decide +kernel, by decide +kernel, by decide +kernel⟩, (gm 426 (by decide +kernel) (by decide +kernel)), (gm 427 (by decide +kernel) (by decide +kernel))⟩
theorem yv_X4_exchange : YV yX4_exchange cX4_exchange 5 none 2 := ⟨⟨gm 433 (by decide +kernel) (by decide +kernel), (gm 37 (by decide +kernel) (by decide +kernel)), by decide +kernel, by decide +kernel, by decide +kernel⟩, (gm 431 (by decide +kernel) (by decide +kernel)), (gm 432 (by decide +kernel) (by decide +kernel))⟩
theorem yv_X5_fuelRun : YV yX5_fuelRun cX5_fuelRun 7 (some .int) 0 := ⟨⟨gm 438 (by decide +kernel) (by decide +kernel), (gm 36 (by decide +kernel) (by decide +kernel)), by decide +kernel, by decide +kernel, by decide +kernel⟩, (gm 436 (by decide +kernel) (by decide +kernel)), (gm 437 (by decide +kernel) (by decide +kernel))⟩
theorem yv_X4_listSupplied : YV yX4_listSupplied cX4_listSupplied 4 (some .int) 1 := ⟨⟨gm 442 (by decide +kernel) (by decide +kernel), (gm 37 (by decide +kernel) (by decide +kernel)), by decide +kernel, by decide +kernel, by decide +kernel⟩, (gm 440 (by decide +kernel) (by decide +kernel)), (gm 441 (by decide +kernel) (by decide +kernel))⟩
theorem yv_X5_pass : YV yX5_pass cX5_pass 3 (some .int) 1 := ⟨⟨gm 447 (by decide +kernel) (by decide +kernel), (gm 36 (by decide +kernel) (by decide +kernel)), by decide +kernel, by decide +kernel, by decide +kernel⟩, (gm 445 (by decide +kernel) (by decide +kernel)), (gm 446 (by decide +kernel) (by decide +kernel))⟩
theorem yv_X4_litTotal : YV yX4_litTotal cX4_litTotal 3 (some .int) 0 := ⟨⟨gm 451 (by decide +kernel) (by decide +kernel), (gm 37 (by decide +kernel) (by decide +kernel)), by decide +kernel, by decide +kernel, by decide +kernel⟩, (gm 449 (by decide +kernel) (by decide +kernel)), (gm 450 (by decide +kernel) (by decide +kernel))⟩
theorem yv_X4_passHours : YV yX4_passHours cX4_passHours 3 none 1 := ⟨⟨gm 455 (by decide +kernel) (by decide +kernel), (gm 37 (by decide +kernel) (by decide +kernel)), by decide +kernel, by decide +kernel, by decide +kernel⟩, (gm 453 (by decide +kernel) (by decide +kernel)), (gm 454 (by decide +kernel) (by decide +kernel))⟩
theorem yv_X4_passHour : YV yX4_passHour cX4_passHour 2 none 0 := ⟨⟨gm 459 (by decide +kernel) (by decide +kernel), (gm 37 (by decide +kernel) (by decide +kernel)), by decide +kernel, by decide +kernel, by decide +kernel⟩, (gm 457 (by decide +kernel) (by decide +kernel)), (gm 458 (by decide +kernel) (by decide +kernel))⟩
theorem yv_X4_lightOrDarken : YV yX4_lightOrDarken cX4_lightOrDarken 4 none 1 := ⟨⟨gm 463 (by decide +kernel) (by decide +kernel), (gm 37 (by decide +kernel) (by decide +kernel)), by decide +kernel, by decide +kernel, by decide +kernel⟩, (gm 461 (by decide +kernel) (by decide +kernel)), (gm 462 (by decide +kernel) (by decide +kernel))⟩
theorem yv_X4_causeFor : YV yX4_causeFor cX4_causeFor 3 (some .int) 1 := ⟨⟨gm 467 (by decide +kernel) (by decide +kernel), (gm 37 (by decide +kernel) (by decide +kernel)), by decide +kernel, by decide +kernel, by decide +kernel⟩, (gm 465 (by decide +kernel) (by decide +kernel)), (gm 466 (by decide +kernel) (by decide +kernel))⟩
theorem yv_X1_causeAt : YV yX1_causeAt cX1_causeAt 2 (some .int) 1 := ⟨⟨gm 471 (by decide +kernel) (by decide +kernel), (gm 38 (by decide +kernel) (by decide +kernel)), by decide +kernel, by decide +kernel, by decide +kernel⟩, (gm 469 (by decide +kernel) (by decide +kernel)), (gm 470 (by decide +kernel) (by decide +kernel))⟩
theorem yv_X0_darken : YV yX0_darken cX0_darken 2 none 1 := ⟨⟨gm 475 (by decide +kernel) (by decide +kernel), (gm 39 (by decide +kernel) (by decide +kernel)), by decide +kernel, by decide +kernel, by decide +kernel⟩, (gm 473 (by decide +kernel) (by decide +kernel)), (gm 474 (by decide +kernel) (by decide +kernel))⟩
theorem yv_X1_burnHour : YV yX1_burnHour cX1_burnHour 1 none 0 := ⟨⟨gm 479 (by decide +kernel) (by decide +kernel), (gm 38 (by decide +kernel) (by decide +kernel)), by decide +kernel, by decide +kernel, by decide +kernel⟩, (gm 477 (by decide +kernel) (by decide +kernel)), (gm 478 (by decide +kernel) (by decide +kernel))⟩
theorem yv_X0_light : YV yX0_light cX0_light 2 none 1 := ⟨⟨gm 483 (by decide +kernel) (by decide +kernel), (gm 39 (by decide +kernel) (by decide +kernel)), by decide +kernel, by decide +kernel, by decide +kernel⟩, (gm 481 (by decide +kernel) (by decide +kernel)), (gm 482 (by decide +kernel) (by decide +kernel))⟩
theorem yv_X5_type : YV yX5_type cX5_type 2 (some .int) 1 := ⟨⟨gm 488 (by decide +kernel) (by decide +kernel), (gm 36 (by decide +kernel) (by decide +kernel)), by decide +kernel, by decide +kernel, by decide +kernel⟩, (gm 486 (by decide +kernel) (by decide +kernel)), (gm 487 (by decide +kernel) (by decide +kernel))⟩
theorem yv_X3_append : YV yX3_append cX3_append 2 (some .boolean) 1 := ⟨⟨gm 492 (by decide +kernel) (by decide +kernel), (gm 41 (by decide +kernel) (by decide +kernel)), by decide +kernel, by decide +kernel, by decide +kernel⟩, (gm 490 (by decide +kernel) (by decide +kernel)), (gm 491 (by decide +kernel) (by decide +kernel))⟩
theorem yv_X5_clearText : YV yX5_clearText cX5_clearText 2 (some .int) 0 := ⟨⟨gm 496 (by decide +kernel) (by decide +kernel), (gm 36 (by decide +kernel) (by decide +kernel)), by decide +kernel, by decide +kernel, by decide +kernel⟩, (gm 494 (by decide +kernel) (by decide +kernel)), (gm 495 (by decide +kernel) (by decide +kernel))⟩
theorem yv_X5_readSites : YV yX5_readSites cX5_readSites 3 (some .int) 0 := ⟨⟨gm 500 (by decide +kernel) (by decide +kernel), (gm 36 (by decide +kernel) (by decide +kernel)), by decide +kernel, by decide +kernel, by decide +kernel⟩, (gm 498 (by decide +kernel) (by decide +kernel)), (gm 499 (by decide +kernel) (by decide +kernel))⟩
theorem yv_X3_read : YV yX3_read cX3_read 3 (some .boolean) 0 := ⟨⟨gm 504 (by decide +kernel) (by decide +kernel), (gm 41 (by decide +kernel) (by decide +kernel)), by decide +kernel, by decide +kernel, by decide +kernel⟩, (gm 502 (by decide +kernel) (by decide +kernel)), (gm 503 (by decide +kernel) (by decide +kernel))⟩
theorem yv_X3_readSite : YV yX3_readSite cX3_readSite 5 (some .boolean) 0 := ⟨⟨gm 508 (by decide +kernel) (by decide +kernel), (gm 41 (by decide +kernel) (by decide +kernel)), by decide +kernel, by decide +kernel, by decide +kernel⟩, (gm 506 (by decide +kernel) (by decide +kernel)), (gm 507 (by decide +kernel) (by decide +kernel))⟩
theorem yv_X3_readNumber : YV yX3_readNumber cX3_readNumber 6 (some .int) 2 := ⟨⟨gm 512 (by decide +kernel) (by decide +kernel), (gm 41 (by decide +kernel) (by decide +kernel)), by decide +kernel, by decide +kernel, by decide +kernel⟩, (gm 510 (by decide +kernel) (by decide +kernel)), (gm 511 (by decide +kernel) (by decide +kernel))⟩
theorem yv_X3_isDigitFrom : YV yX3_isDigitFrom cX3_isDigitFrom 2 (some .boolean) 1 := ⟨⟨gm 516 (by decide +kernel) (by decide +kernel), (gm 41 (by decide +kernel) (by decide +kernel)), by decide +kernel, by decide +kernel, by decide +kernel⟩, (gm 514 (by decide +kernel) (by decide +kernel)), (gm 515 (by decide +kernel) (by decide +kernel))⟩
theorem yv_X3_skip : YV yX3_skip cX3_skip 2 (some .boolean) 1 := ⟨⟨gm 520 (by decide +kernel) (by decide +kernel), (gm 41 (by decide +kernel) (by decide +kernel)), by decide +kernel, by decide +kernel, by decide +kernel⟩, (gm 518 (by decide +kernel) (by decide +kernel)), (gm 519 (by decide +kernel) (by decide +kernel))⟩
theorem yv_X5_undo : YV yX5_undo cX5_undo 1 (some .int) 0 := ⟨⟨gm 525 (by decide +kernel) (by decide +kernel), (gm 36 (by decide +kernel) (by decide +kernel)), by decide +kernel, by decide +kernel, by decide +kernel⟩, (gm 523 (by decide +kernel) (by decide +kernel)), (gm 524 (by decide +kernel) (by decide +kernel))⟩
theorem yv_X2_popInto : YV yX2_popInto cX2_popInto 2 (some .boolean) 1 := ⟨⟨gm 529 (by decide +kernel) (by decide +kernel), (gm 40 (by decide +kernel) (by decide +kernel)), by decide +kernel, by decide +kernel, by decide +kernel⟩, (gm 527 (by decide +kernel) (by decide +kernel)), (gm 528 (by decide +kernel) (by decide +kernel))⟩
theorem yv_X5_keep : YV yX5_keep cX5_keep 1 (some .int) 0 := ⟨⟨gm 533 (by decide +kernel) (by decide +kernel), (gm 36 (by decide +kernel) (by decide +kernel)), by decide +kernel, by decide +kernel, by decide +kernel⟩, (gm 531 (by decide +kernel) (by decide +kernel)), (gm 532 (by decide +kernel) (by decide +kernel))⟩
theorem yv_X5_restore : YV yX5_restore cX5_restore 1 (some .int) 0 := ⟨⟨gm 538 (by decide +kernel) (by decide +kernel), (gm 36 (by decide +kernel) (by decide +kernel)), by decide +kernel, by decide +kernel, by decide +kernel⟩, (gm 536 (by decide +kernel) (by decide +kernel)), (gm 537 (by decide +kernel) (by decide +kernel))⟩
theorem yv_X5_set : YV yX5_set cX5_set 4 (some .int) 2 := ⟨⟨gm 542 (by decide +kernel) (by decide +kernel), (gm 36 (by decide +kernel) (by decide +kernel)), by decide +kernel, by decide +kernel, by decide +kernel⟩, (gm 540 (by decide +kernel) (by decide +kernel)), (gm 541 (by decide +kernel) (by decide +kernel))⟩
theorem yv_X5_site : YV yX5_site cX5_site 4 (some .int) 2 := ⟨⟨gm 547 (by decide +kernel) (by decide +kernel), (gm 36 (by decide +kernel) (by decide +kernel)), by decide +kernel, by decide +kernel, by decide +kernel⟩, (gm 545 (by decide +kernel) (by decide +kernel)), (gm 546 (by decide +kernel) (by decide +kernel))⟩
theorem yv_X5_why : YV yX5_why cX5_why 3 (some .int) 1 := ⟨⟨gm 552 (by decide +kernel) (by decide +kernel), (gm 36 (by decide +kernel) (by decide +kernel)), by decide +kernel, by decide +kernel, by decide +kernel⟩, (gm 550 (by decide +kernel) (by decide +kernel)), (gm 551 (by decide +kernel) (by decide +kernel))⟩
theorem yv_X5_needy : YV yX5_needy cX5_needy 3 (some .int) 1 := ⟨⟨gm 557 (by decide +kernel) (by decide +kernel), (gm 36 (by decide +kernel) (by decide +kernel)), by decide +kernel, by decide +kernel, by decide +kernel⟩, (gm 555 (by decide +kernel) (by decide +kernel)), (gm 556 (by decide +kernel) (by decide +kernel))⟩
theorem yv_X5_thirsty : YV yX5_thirsty cX5_thirsty 3 (some .int) 1 := ⟨⟨gm 561 (by decide +kernel) (by decide +kernel), (gm 36 (by decide +kernel) (by decide +kernel)), by decide +kernel, by decide +kernel, by decide +kernel⟩, (gm 559 (by decide +kernel) (by decide +kernel)), (gm 560 (by decide +kernel) (by decide +kernel))⟩
theorem yv_X5_forecast : YV yX5_forecast cX5_forecast 3 (some .int) 2 := ⟨⟨gm 565 (by decide +kernel) (by decide +kernel), (gm 36 (by decide +kernel) (by decide +kernel)), by decide +kernel, by decide +kernel, by decide +kernel⟩, (gm 563 (by decide +kernel) (by decide +kernel)), (gm 564 (by decide +kernel) (by decide +kernel))⟩
theorem yv_X4_darkTotal : YV yX4_darkTotal cX4_darkTotal 3 (some .int) 0 := ⟨⟨gm 569 (by decide +kernel) (by decide +kernel), (gm 37 (by decide +kernel) (by decide +kernel)), by decide +kernel, by decide +kernel, by decide +kernel⟩, (gm 567 (by decide +kernel) (by decide +kernel)), (gm 568 (by decide +kernel) (by decide +kernel))⟩
theorem yv_X4_darkestSince : YV yX4_darkestSince cX4_darkestSince 6 (some .int) 1 := ⟨⟨gm 573 (by decide +kernel) (by decide +kernel), (gm 37 (by decide +kernel) (by decide +kernel)), by decide +kernel, by decide +kernel, by decide +kernel⟩, (gm 571 (by decide +kernel) (by decide +kernel)), (gm 572 (by decide +kernel) (by decide +kernel))⟩
theorem yv_X5_count : YV yX5_count cX5_count 2 (some .int) 1 := ⟨⟨gm 577 (by decide +kernel) (by decide +kernel), (gm 36 (by decide +kernel) (by decide +kernel)), by decide +kernel, by decide +kernel, by decide +kernel⟩, (gm 575 (by decide +kernel) (by decide +kernel)), (gm 576 (by decide +kernel) (by decide +kernel))⟩
theorem yv_X4_fuelInTanks : YV yX4_fuelInTanks cX4_fuelInTanks 3 (some .int) 0 := ⟨⟨gm 581 (by decide +kernel) (by decide +kernel), (gm 37 (by decide +kernel) (by decide +kernel)), by decide +kernel, by decide +kernel, by decide +kernel⟩, (gm 579 (by decide +kernel) (by decide +kernel)), (gm 580 (by decide +kernel) (by decide +kernel))⟩
theorem yv_X4_billTotal : YV yX4_billTotal cX4_billTotal 3 (some .int) 0 := ⟨⟨gm 585 (by decide +kernel) (by decide +kernel), (gm 37 (by decide +kernel) (by decide +kernel)), by decide +kernel, by decide +kernel, by decide +kernel⟩, (gm 583 (by decide +kernel) (by decide +kernel)), (gm 584 (by decide +kernel) (by decide +kernel))⟩
theorem yi_X6_init : YI yX6_init cX6_init 1 0 := ⟨⟨gm 590 (by decide +kernel) (by decide +kernel), (gm 42 (by decide +kernel) (by decide +kernel)), by decide +kernel, by decide +kernel, by decide +kernel⟩, (gm 589 (by decide +kernel) (by decide +kernel)), by decide +kernel⟩
theorem yv_X6_buy : YV yX6_buy cX6_buy 2 (some .int) 1 := ⟨⟨gm 632 (by decide +kernel) (by decide +kernel), (gm 42 (by decide +kernel) (by decide +kernel)), by decide +kernel, by decide +kernel, by decide +kernel⟩, (gm 630 (by decide +kernel) (by decide +kernel)), (gm 631 (by decide +kernel) (by decide +kernel))⟩
theorem ys_X6_in : YS yX6_in cX6_in 3 (some .boolean) 3 := ⟨⟨gm 635 (by decide +kernel) (by decide +kernel), (gm 42 (by decide +kernel) (by decide +kernel)), by decide +kernel, by decide +kernel, by decide +kernel⟩, (gm 634 (by decide +kernel) (by decide +kernel))⟩
theorem yv_X6_record : YV yX6_record cX6_record 2 none 0 := ⟨⟨gm 640 (by decide +kernel) (by decide +kernel), (gm 42 (by decide +kernel) (by decide +kernel)), by decide +kernel, by decide +kernel, by decide +kernel⟩, (gm 639 (by decide +kernel) (by decide +kernel)), (gm 0 (by decide +kernel) (by decide +kernel))⟩
theorem yv_X6_weather : YV yX6_weather cX6_weather 3 (some .int) 1 := ⟨⟨gm 644 (by decide +kernel) (by decide +kernel), (gm 42 (by decide +kernel) (by decide +kernel)), by decide +kernel, by decide +kernel, by decide +kernel⟩, (gm 642 (by decide +kernel) (by decide +kernel)), (gm 643 (by decide +kernel) (by decide +kernel))⟩
theorem yv_X6_setPrice : YV yX6_setPrice cX6_setPrice 3 (some .int) 1 := ⟨⟨gm 648 (by decide +kernel) (by decide +kernel), (gm 42 (by decide +kernel) (by decide +kernel)), by decide +kernel, by decide +kernel, by decide +kernel⟩, (gm 646 (by decide +kernel) (by decide +kernel)), (gm 647 (by decide +kernel) (by decide +kernel))⟩
theorem yv_X6_addSet : YV yX6_addSet cX6_addSet 7 (some .int) 4 := ⟨⟨gm 652 (by decide +kernel) (by decide +kernel), (gm 42 (by decide +kernel) (by decide +kernel)), by decide +kernel, by decide +kernel, by decide +kernel⟩, (gm 650 (by decide +kernel) (by decide +kernel)), (gm 651 (by decide +kernel) (by decide +kernel))⟩
theorem yv_X6_toSet : YV yX6_toSet cX6_toSet 4 none 3 := ⟨⟨gm 656 (by decide +kernel) (by decide +kernel), (gm 42 (by decide +kernel) (by decide +kernel)), by decide +kernel, by decide +kernel, by decide +kernel⟩, (gm 655 (by decide +kernel) (by decide +kernel)), (gm 1 (by decide +kernel) (by decide +kernel))⟩
theorem yv_X6_fill : YV yX6_fill cX6_fill 3 (some .int) 1 := ⟨⟨gm 660 (by decide +kernel) (by decide +kernel), (gm 42 (by decide +kernel) (by decide +kernel)), by decide +kernel, by decide +kernel, by decide +kernel⟩, (gm 658 (by decide +kernel) (by decide +kernel)), (gm 659 (by decide +kernel) (by decide +kernel))⟩
theorem yv_X6_noSet : YV yX6_noSet cX6_noSet 2 (some .boolean) 1 := ⟨⟨gm 664 (by decide +kernel) (by decide +kernel), (gm 42 (by decide +kernel) (by decide +kernel)), by decide +kernel, by decide +kernel, by decide +kernel⟩, (gm 663 (by decide +kernel) (by decide +kernel)), (gm 2 (by decide +kernel) (by decide +kernel))⟩
theorem yv_X6_ofSet : YV yX6_ofSet cX6_ofSet 3 (some .int) 2 := ⟨⟨gm 668 (by decide +kernel) (by decide +kernel), (gm 42 (by decide +kernel) (by decide +kernel)), by decide +kernel, by decide +kernel, by decide +kernel⟩, (gm 667 (by decide +kernel) (by decide +kernel)), (gm 3 (by decide +kernel) (by decide +kernel))⟩
theorem yv_X6_roomIn : YV yX6_roomIn cX6_roomIn 2 (some .int) 1 := ⟨⟨gm 672 (by decide +kernel) (by decide +kernel), (gm 42 (by decide +kernel) (by decide +kernel)), by decide +kernel, by decide +kernel, by decide +kernel⟩, (gm 671 (by decide +kernel) (by decide +kernel)), (gm 4 (by decide +kernel) (by decide +kernel))⟩
theorem ys_X6_least : YS yX6_least cX6_least 2 (some .int) 2 := ⟨⟨gm 675 (by decide +kernel) (by decide +kernel), (gm 42 (by decide +kernel) (by decide +kernel)), by decide +kernel, by decide +kernel, by decide +kernel⟩, (gm 674 (by decide +kernel) (by decide +kernel))⟩
theorem yv_X6_fills : YV yX6_fills cX6_fills 3 none 2 := ⟨⟨gm 679 (by decide +kernel) (by decide +kernel), (gm 42 (by decide +kernel) (by decide +kernel)), by decide +kernel, by decide +kernel, by decide +kernel⟩, (gm 678 (by decide +kernel) (by decide +kernel)), (gm 5 (by decide +kernel) (by decide +kernel))⟩
theorem yv_X6_addSite : YV yX6_addSite cX6_addSite 5 (some .int) 4 := ⟨⟨gm 683 (by decide +kernel) (by decide +kernel), (gm 42 (by decide +kernel) (by decide +kernel)), by decide +kernel, by decide +kernel, by decide +kernel⟩, (gm 681 (by decide +kernel) (by decide +kernel)), (gm 682 (by decide +kernel) (by decide +kernel))⟩
theorem yv_X6_areHours : YV yX6_areHours cX6_areHours 3 (some .boolean) 2 := ⟨⟨gm 687 (by decide +kernel) (by decide +kernel), (gm 42 (by decide +kernel) (by decide +kernel)), by decide +kernel, by decide +kernel, by decide +kernel⟩, (gm 686 (by decide +kernel) (by decide +kernel)), (gm 6 (by decide +kernel) (by decide +kernel))⟩
theorem yv_X6_adds : YV yX6_adds cX6_adds 7 (some .int) 4 := ⟨⟨gm 691 (by decide +kernel) (by decide +kernel), (gm 42 (by decide +kernel) (by decide +kernel)), by decide +kernel, by decide +kernel, by decide +kernel⟩, (gm 690 (by decide +kernel) (by decide +kernel)), (gm 7 (by decide +kernel) (by decide +kernel))⟩
theorem yv_X6_toSite : YV yX6_toSite cX6_toSite 4 none 3 := ⟨⟨gm 695 (by decide +kernel) (by decide +kernel), (gm 42 (by decide +kernel) (by decide +kernel)), by decide +kernel, by decide +kernel, by decide +kernel⟩, (gm 694 (by decide +kernel) (by decide +kernel)), (gm 8 (by decide +kernel) (by decide +kernel))⟩
theorem yv_X6_bring : YV yX6_bring cX6_bring 3 (some .int) 2 := ⟨⟨gm 699 (by decide +kernel) (by decide +kernel), (gm 42 (by decide +kernel) (by decide +kernel)), by decide +kernel, by decide +kernel, by decide +kernel⟩, (gm 697 (by decide +kernel) (by decide +kernel)), (gm 698 (by decide +kernel) (by decide +kernel))⟩
theorem yv_X6_noSite : YV yX6_noSite cX6_noSite 2 (some .boolean) 1 := ⟨⟨gm 703 (by decide +kernel) (by decide +kernel), (gm 42 (by decide +kernel) (by decide +kernel)), by decide +kernel, by decide +kernel, by decide +kernel⟩, (gm 702 (by decide +kernel) (by decide +kernel)), (gm 9 (by decide +kernel) (by decide +kernel))⟩
theorem yv_X6_setAt : YV yX6_setAt cX6_setAt 2 (some .int) 1 := ⟨⟨gm 707 (by decide +kernel) (by decide +kernel), (gm 42 (by decide +kernel) (by decide +kernel)), by decide +kernel, by decide +kernel, by decide +kernel⟩, (gm 706 (by decide +kernel) (by decide +kernel)), (gm 10 (by decide +kernel) (by decide +kernel))⟩
theorem yv_X6_ofSite : YV yX6_ofSite cX6_ofSite 3 (some .int) 2 := ⟨⟨gm 711 (by decide +kernel) (by decide +kernel), (gm 42 (by decide +kernel) (by decide +kernel)), by decide +kernel, by decide +kernel, by decide +kernel⟩, (gm 710 (by decide +kernel) (by decide +kernel)), (gm 11 (by decide +kernel) (by decide +kernel))⟩
theorem yv_X6_fits : YV yX6_fits cX6_fits 3 (some .boolean) 2 := ⟨⟨gm 715 (by decide +kernel) (by decide +kernel), (gm 42 (by decide +kernel) (by decide +kernel)), by decide +kernel, by decide +kernel, by decide +kernel⟩, (gm 714 (by decide +kernel) (by decide +kernel)), (gm 12 (by decide +kernel) (by decide +kernel))⟩
theorem yv_X6_comes : YV yX6_comes cX6_comes 3 none 2 := ⟨⟨gm 719 (by decide +kernel) (by decide +kernel), (gm 42 (by decide +kernel) (by decide +kernel)), by decide +kernel, by decide +kernel, by decide +kernel⟩, (gm 718 (by decide +kernel) (by decide +kernel)), (gm 13 (by decide +kernel) (by decide +kernel))⟩
theorem yv_X6_inYard : YV yX6_inYard cX6_inYard 3 (some .int) 0 := ⟨⟨gm 723 (by decide +kernel) (by decide +kernel), (gm 42 (by decide +kernel) (by decide +kernel)), by decide +kernel, by decide +kernel, by decide +kernel⟩, (gm 722 (by decide +kernel) (by decide +kernel)), (gm 14 (by decide +kernel) (by decide +kernel))⟩
theorem yv_X6_takeBack : YV yX6_takeBack cX6_takeBack 3 (some .int) 1 := ⟨⟨gm 727 (by decide +kernel) (by decide +kernel), (gm 42 (by decide +kernel) (by decide +kernel)), by decide +kernel, by decide +kernel, by decide +kernel⟩, (gm 725 (by decide +kernel) (by decide +kernel)), (gm 726 (by decide +kernel) (by decide +kernel))⟩
theorem yv_X6_goesBack : YV yX6_goesBack cX6_goesBack 3 none 1 := ⟨⟨gm 731 (by decide +kernel) (by decide +kernel), (gm 42 (by decide +kernel) (by decide +kernel)), by decide +kernel, by decide +kernel, by decide +kernel⟩, (gm 730 (by decide +kernel) (by decide +kernel)), (gm 15 (by decide +kernel) (by decide +kernel))⟩
theorem yv_X6_giveOut : YV yX6_giveOut cX6_giveOut 6 (some .int) 0 := ⟨⟨gm 735 (by decide +kernel) (by decide +kernel), (gm 42 (by decide +kernel) (by decide +kernel)), by decide +kernel, by decide +kernel, by decide +kernel⟩, (gm 733 (by decide +kernel) (by decide +kernel)), (gm 734 (by decide +kernel) (by decide +kernel))⟩
theorem yv_X6_isOpen : YV yX6_isOpen cX6_isOpen 2 (some .boolean) 1 := ⟨⟨gm 739 (by decide +kernel) (by decide +kernel), (gm 42 (by decide +kernel) (by decide +kernel)), by decide +kernel, by decide +kernel, by decide +kernel⟩, (gm 738 (by decide +kernel) (by decide +kernel)), (gm 16 (by decide +kernel) (by decide +kernel))⟩
theorem yv_X6_wants : YV yX6_wants cX6_wants 2 (some .boolean) 1 := ⟨⟨gm 743 (by decide +kernel) (by decide +kernel), (gm 42 (by decide +kernel) (by decide +kernel)), by decide +kernel, by decide +kernel, by decide +kernel⟩, (gm 742 (by decide +kernel) (by decide +kernel)), (gm 17 (by decide +kernel) (by decide +kernel))⟩
theorem yv_X6_yardFor : YV yX6_yardFor cX6_yardFor 5 (some .int) 1 := ⟨⟨gm 747 (by decide +kernel) (by decide +kernel), (gm 42 (by decide +kernel) (by decide +kernel)), by decide +kernel, by decide +kernel, by decide +kernel⟩, (gm 746 (by decide +kernel) (by decide +kernel)), (gm 18 (by decide +kernel) (by decide +kernel))⟩
theorem yv_X6_needyAt : YV yX6_needyAt cX6_needyAt 5 (some .int) 1 := ⟨⟨gm 751 (by decide +kernel) (by decide +kernel), (gm 42 (by decide +kernel) (by decide +kernel)), by decide +kernel, by decide +kernel, by decide +kernel⟩, (gm 750 (by decide +kernel) (by decide +kernel)), (gm 19 (by decide +kernel) (by decide +kernel))⟩
theorem yv_X6_isNeedier : YV yX6_isNeedier cX6_isNeedier 3 (some .boolean) 2 := ⟨⟨gm 755 (by decide +kernel) (by decide +kernel), (gm 42 (by decide +kernel) (by decide +kernel)), by decide +kernel, by decide +kernel, by decide +kernel⟩, (gm 754 (by decide +kernel) (by decide +kernel)), (gm 20 (by decide +kernel) (by decide +kernel))⟩
theorem yv_X6_swap : YV yX6_swap cX6_swap 6 (some .int) 0 := ⟨⟨gm 759 (by decide +kernel) (by decide +kernel), (gm 42 (by decide +kernel) (by decide +kernel)), by decide +kernel, by decide +kernel, by decide +kernel⟩, (gm 757 (by decide +kernel) (by decide +kernel)), (gm 758 (by decide +kernel) (by decide +kernel))⟩
theorem yv_X6_partnerOf : YV yX6_partnerOf cX6_partnerOf 5 (some .int) 1 := ⟨⟨gm 763 (by decide +kernel) (by decide +kernel), (gm 42 (by decide +kernel) (by decide +kernel)), by decide +kernel, by decide +kernel, by decide +kernel⟩, (gm 762 (by decide +kernel) (by decide +kernel)), (gm 21 (by decide +kernel) (by decide +kernel))⟩
theorem yv_X6_fuelRun : YV yX6_fuelRun cX6_fuelRun 7 (some .int) 0 := ⟨⟨gm 767 (by decide +kernel) (by decide +kernel), (gm 42 (by decide +kernel) (by decide +kernel)), by decide +kernel, by decide +kernel, by decide +kernel⟩, (gm 765 (by decide +kernel) (by decide +kernel)), (gm 766 (by decide +kernel) (by decide +kernel))⟩
theorem yv_X6_thirstyAt : YV yX6_thirstyAt cX6_thirstyAt 6 (some .int) 1 := ⟨⟨gm 771 (by decide +kernel) (by decide +kernel), (gm 42 (by decide +kernel) (by decide +kernel)), by decide +kernel, by decide +kernel, by decide +kernel⟩, (gm 770 (by decide +kernel) (by decide +kernel)), (gm 22 (by decide +kernel) (by decide +kernel))⟩
theorem yv_X6_hoursLeft : YV yX6_hoursLeft cX6_hoursLeft 2 (some .int) 1 := ⟨⟨gm 775 (by decide +kernel) (by decide +kernel), (gm 42 (by decide +kernel) (by decide +kernel)), by decide +kernel, by decide +kernel, by decide +kernel⟩, (gm 774 (by decide +kernel) (by decide +kernel)), (gm 23 (by decide +kernel) (by decide +kernel))⟩
theorem yv_X6_pass : YV yX6_pass cX6_pass 2 (some .int) 1 := ⟨⟨gm 779 (by decide +kernel) (by decide +kernel), (gm 42 (by decide +kernel) (by decide +kernel)), by decide +kernel, by decide +kernel, by decide +kernel⟩, (gm 777 (by decide +kernel) (by decide +kernel)), (gm 778 (by decide +kernel) (by decide +kernel))⟩
theorem yv_X6_goesOnFor : YV yX6_goesOnFor cX6_goesOnFor 4 (some .int) 1 := ⟨⟨gm 783 (by decide +kernel) (by decide +kernel), (gm 42 (by decide +kernel) (by decide +kernel)), by decide +kernel, by decide +kernel, by decide +kernel⟩, (gm 782 (by decide +kernel) (by decide +kernel)), (gm 24 (by decide +kernel) (by decide +kernel))⟩
theorem yv_X6_goesOn : YV yX6_goesOn cX6_goesOn 5 (some .int) 0 := ⟨⟨gm 787 (by decide +kernel) (by decide +kernel), (gm 42 (by decide +kernel) (by decide +kernel)), by decide +kernel, by decide +kernel, by decide +kernel⟩, (gm 786 (by decide +kernel) (by decide +kernel)), (gm 25 (by decide +kernel) (by decide +kernel))⟩
theorem yv_X6_against : YV yX6_against cX6_against 3 (some .int) 1 := ⟨⟨gm 791 (by decide +kernel) (by decide +kernel), (gm 42 (by decide +kernel) (by decide +kernel)), by decide +kernel, by decide +kernel, by decide +kernel⟩, (gm 790 (by decide +kernel) (by decide +kernel)), (gm 26 (by decide +kernel) (by decide +kernel))⟩
theorem yv_X6_isLit : YV yX6_isLit cX6_isLit 4 none 1 := ⟨⟨gm 795 (by decide +kernel) (by decide +kernel), (gm 42 (by decide +kernel) (by decide +kernel)), by decide +kernel, by decide +kernel, by decide +kernel⟩, (gm 794 (by decide +kernel) (by decide +kernel)), (gm 27 (by decide +kernel) (by decide +kernel))⟩
theorem yv_X6_isDark : YV yX6_isDark cX6_isDark 3 none 2 := ⟨⟨gm 799 (by decide +kernel) (by decide +kernel), (gm 42 (by decide +kernel) (by decide +kernel)), by decide +kernel, by decide +kernel, by decide +kernel⟩, (gm 798 (by decide +kernel) (by decide +kernel)), (gm 28 (by decide +kernel) (by decide +kernel))⟩
theorem yv_X6_type : YV yX6_type cX6_type 2 (some .int) 1 := ⟨⟨gm 803 (by decide +kernel) (by decide +kernel), (gm 42 (by decide +kernel) (by decide +kernel)), by decide +kernel, by decide +kernel, by decide +kernel⟩, (gm 801 (by decide +kernel) (by decide +kernel)), (gm 802 (by decide +kernel) (by decide +kernel))⟩
theorem yv_X6_clearText : YV yX6_clearText cX6_clearText 2 (some .int) 0 := ⟨⟨gm 807 (by decide +kernel) (by decide +kernel), (gm 42 (by decide +kernel) (by decide +kernel)), by decide +kernel, by decide +kernel, by decide +kernel⟩, (gm 805 (by decide +kernel) (by decide +kernel)), (gm 806 (by decide +kernel) (by decide +kernel))⟩
theorem yv_X6_readSites : YV yX6_readSites cX6_readSites 4 (some .int) 0 := ⟨⟨gm 811 (by decide +kernel) (by decide +kernel), (gm 42 (by decide +kernel) (by decide +kernel)), by decide +kernel, by decide +kernel, by decide +kernel⟩, (gm 809 (by decide +kernel) (by decide +kernel)), (gm 810 (by decide +kernel) (by decide +kernel))⟩
theorem yv_X6_readsSite : YV yX6_readsSite cX6_readsSite 3 (some .boolean) 0 := ⟨⟨gm 815 (by decide +kernel) (by decide +kernel), (gm 42 (by decide +kernel) (by decide +kernel)), by decide +kernel, by decide +kernel, by decide +kernel⟩, (gm 814 (by decide +kernel) (by decide +kernel)), (gm 29 (by decide +kernel) (by decide +kernel))⟩
theorem yv_X6_number : YV yX6_number cX6_number 5 (some .int) 2 := ⟨⟨gm 819 (by decide +kernel) (by decide +kernel), (gm 42 (by decide +kernel) (by decide +kernel)), by decide +kernel, by decide +kernel, by decide +kernel⟩, (gm 818 (by decide +kernel) (by decide +kernel)), (gm 30 (by decide +kernel) (by decide +kernel))⟩
theorem yv_X6_takes : YV yX6_takes cX6_takes 2 (some .boolean) 1 := ⟨⟨gm 823 (by decide +kernel) (by decide +kernel), (gm 42 (by decide +kernel) (by decide +kernel)), by decide +kernel, by decide +kernel, by decide +kernel⟩, (gm 822 (by decide +kernel) (by decide +kernel)), (gm 31 (by decide +kernel) (by decide +kernel))⟩
theorem yv_X6_undo : YV yX6_undo cX6_undo 2 (some .int) 0 := ⟨⟨gm 827 (by decide +kernel) (by decide +kernel), (gm 42 (by decide +kernel) (by decide +kernel)), by decide +kernel, by decide +kernel, by decide +kernel⟩, (gm 825 (by decide +kernel) (by decide +kernel)), (gm 826 (by decide +kernel) (by decide +kernel))⟩
theorem yv_X6_keep : YV yX6_keep cX6_keep 2 (some .int) 0 := ⟨⟨gm 831 (by decide +kernel) (by decide +kernel), (gm 42 (by decide +kernel) (by decide +kernel)), by decide +kernel, by decide +kernel, by decide +kernel⟩, (gm 829 (by decide +kernel) (by decide +kernel)), (gm 830 (by decide +kernel) (by decide +kernel))⟩
theorem yv_X6_restore : YV yX6_restore cX6_restore 2 (some .int) 0 := ⟨⟨gm 835 (by decide +kernel) (by decide +kernel), (gm 42 (by decide +kernel) (by decide +kernel)), by decide +kernel, by decide +kernel, by decide +kernel⟩, (gm 833 (by decide +kernel) (by decide +kernel)), (gm 834 (by decide +kernel) (by decide +kernel))⟩
theorem yv_X6_set : YV yX6_set cX6_set 3 (some .int) 2 := ⟨⟨gm 839 (by decide +kernel) (by decide +kernel), (gm 42 (by decide +kernel) (by decide +kernel)), by decide +kernel, by decide +kernel, by decide +kernel⟩, (gm 837 (by decide +kernel) (by decide +kernel)), (gm 838 (by decide +kernel) (by decide +kernel))⟩
theorem yv_X6_site : YV yX6_site cX6_site 3 (some .int) 2 := ⟨⟨gm 843 (by decide +kernel) (by decide +kernel), (gm 42 (by decide +kernel) (by decide +kernel)), by decide +kernel, by decide +kernel, by decide +kernel⟩, (gm 841 (by decide +kernel) (by decide +kernel)), (gm 842 (by decide +kernel) (by decide +kernel))⟩
theorem yv_X6_why : YV yX6_why cX6_why 2 (some .int) 1 := ⟨⟨gm 847 (by decide +kernel) (by decide +kernel), (gm 42 (by decide +kernel) (by decide +kernel)), by decide +kernel, by decide +kernel, by decide +kernel⟩, (gm 845 (by decide +kernel) (by decide +kernel)), (gm 846 (by decide +kernel) (by decide +kernel))⟩
theorem yv_X6_needy : YV yX6_needy cX6_needy 2 (some .int) 1 := ⟨⟨gm 851 (by decide +kernel) (by decide +kernel), (gm 42 (by decide +kernel) (by decide +kernel)), by decide +kernel, by decide +kernel, by decide +kernel⟩, (gm 849 (by decide +kernel) (by decide +kernel)), (gm 850 (by decide +kernel) (by decide +kernel))⟩
theorem yv_X6_thirsty : YV yX6_thirsty cX6_thirsty 2 (some .int) 1 := ⟨⟨gm 855 (by decide +kernel) (by decide +kernel), (gm 42 (by decide +kernel) (by decide +kernel)), by decide +kernel, by decide +kernel, by decide +kernel⟩, (gm 853 (by decide +kernel) (by decide +kernel)), (gm 854 (by decide +kernel) (by decide +kernel))⟩
theorem yv_X6_forecast : YV yX6_forecast cX6_forecast 6 (some .int) 2 := ⟨⟨gm 859 (by decide +kernel) (by decide +kernel), (gm 42 (by decide +kernel) (by decide +kernel)), by decide +kernel, by decide +kernel, by decide +kernel⟩, (gm 857 (by decide +kernel) (by decide +kernel)), (gm 858 (by decide +kernel) (by decide +kernel))⟩
theorem yv_X6_darkest : YV yX6_darkest cX6_darkest 5 (some .int) 0 := ⟨⟨gm 863 (by decide +kernel) (by decide +kernel), (gm 42 (by decide +kernel) (by decide +kernel)), by decide +kernel, by decide +kernel, by decide +kernel⟩, (gm 862 (by decide +kernel) (by decide +kernel)), (gm 32 (by decide +kernel) (by decide +kernel))⟩
theorem yv_X6_count : YV yX6_count cX6_count 2 (some .int) 1 := ⟨⟨gm 867 (by decide +kernel) (by decide +kernel), (gm 42 (by decide +kernel) (by decide +kernel)), by decide +kernel, by decide +kernel, by decide +kernel⟩, (gm 865 (by decide +kernel) (by decide +kernel)), (gm 866 (by decide +kernel) (by decide +kernel))⟩
theorem yv_X6_inTanks : YV yX6_inTanks cX6_inTanks 3 (some .int) 0 := ⟨⟨gm 871 (by decide +kernel) (by decide +kernel), (gm 42 (by decide +kernel) (by decide +kernel)), by decide +kernel, by decide +kernel, by decide +kernel⟩, (gm 870 (by decide +kernel) (by decide +kernel)), (gm 33 (by decide +kernel) (by decide +kernel))⟩
theorem yv_X6_openSites : YV yX6_openSites cX6_openSites 3 (some .int) 0 := ⟨⟨gm 875 (by decide +kernel) (by decide +kernel), (gm 42 (by decide +kernel) (by decide +kernel)), by decide +kernel, by decide +kernel, by decide +kernel⟩, (gm 874 (by decide +kernel) (by decide +kernel)), (gm 34 (by decide +kernel) (by decide +kernel))⟩
end
section
theorem dX0_init_0 : decode cX0_init 0 = .ok (.aload_n 0, 1) := by decide +kernel
theorem dX0_init_1 : decode cX0_init 1 = .ok (.invokespecial 3, 3) := by decide +kernel
theorem dX0_init_4 : decode cX0_init 4 = .ok (.aload_n 0, 1) := by decide +kernel
theorem dX0_init_5 : decode cX0_init 5 = .ok (.bipush (-5), 2) := by decide +kernel
theorem dX0_init_7 : decode cX0_init 7 = .ok (.putfield 9, 3) := by decide +kernel
theorem dX0_init_10 : decode cX0_init 10 = .ok (.aload_n 0, 1) := by decide +kernel
theorem dX0_init_11 : decode cX0_init 11 = .ok (.bipush (-5), 2) := by decide +kernel
theorem dX0_init_13 : decode cX0_init 13 = .ok (.putfield 15, 3) := by decide +kernel
theorem dX0_init_16 : decode cX0_init 16 = .ok (.return_, 1) := by decide +kernel
theorem dX0_copyFrom_0 : decode cX0_copyFrom 0 = .ok (.aload_n 0, 1) := by decide +kernel
theorem dX0_copyFrom_1 : decode cX0_copyFrom 1 = .ok (.aload_n 1, 1) := by decide +kernel
theorem dX0_copyFrom_2 : decode cX0_copyFrom 2 = .ok (.getfield 18, 3) := by decide +kernel
theorem dX0_copyFrom_5 : decode cX0_copyFrom 5 = .ok (.putfield 18, 3) := by decide +kernel
theorem dX0_copyFrom_8 : decode cX0_copyFrom 8 = .ok (.aload_n 0, 1) := by decide +kernel
theorem dX0_copyFrom_9 : decode cX0_copyFrom 9 = .ok (.aload_n 1, 1) := by decide +kernel
theorem dX0_copyFrom_10 : decode cX0_copyFrom 10 = .ok (.getfield 21, 3) := by decide +kernel
theorem dX0_copyFrom_13 : decode cX0_copyFrom 13 = .ok (.putfield 21, 3) := by decide +kernel
theorem dX0_copyFrom_16 : decode cX0_copyFrom 16 = .ok (.aload_n 0, 1) := by decide +kernel
theorem dX0_copyFrom_17 : decode cX0_copyFrom 17 = .ok (.aload_n 1, 1) := by decide +kernel
theorem dX0_copyFrom_18 : decode cX0_copyFrom 18 = .ok (.getfield 24, 3) := by decide +kernel
theorem dX0_copyFrom_21 : decode cX0_copyFrom 21 = .ok (.putfield 24, 3) := by decide +kernel
theorem dX0_copyFrom_24 : decode cX0_copyFrom 24 = .ok (.aload_n 0, 1) := by decide +kernel
theorem dX0_copyFrom_25 : decode cX0_copyFrom 25 = .ok (.aload_n 1, 1) := by decide +kernel
theorem dX0_copyFrom_26 : decode cX0_copyFrom 26 = .ok (.getfield 27, 3) := by decide +kernel
theorem dX0_copyFrom_29 : decode cX0_copyFrom 29 = .ok (.putfield 27, 3) := by decide +kernel
theorem dX0_copyFrom_32 : decode cX0_copyFrom 32 = .ok (.aload_n 0, 1) := by decide +kernel
theorem dX0_copyFrom_33 : decode cX0_copyFrom 33 = .ok (.aload_n 1, 1) := by decide +kernel
theorem dX0_copyFrom_34 : decode cX0_copyFrom 34 = .ok (.getfield 9, 3) := by decide +kernel
theorem dX0_copyFrom_37 : decode cX0_copyFrom 37 = .ok (.putfield 9, 3) := by decide +kernel
theorem dX0_copyFrom_40 : decode cX0_copyFrom 40 = .ok (.aload_n 0, 1) := by decide +kernel
theorem dX0_copyFrom_41 : decode cX0_copyFrom 41 = .ok (.aload_n 1, 1) := by decide +kernel
theorem dX0_copyFrom_42 : decode cX0_copyFrom 42 = .ok (.getfield 30, 3) := by decide +kernel
theorem dX0_copyFrom_45 : decode cX0_copyFrom 45 = .ok (.putfield 30, 3) := by decide +kernel
theorem dX0_copyFrom_48 : decode cX0_copyFrom 48 = .ok (.aload_n 0, 1) := by decide +kernel
theorem dX0_copyFrom_49 : decode cX0_copyFrom 49 = .ok (.aload_n 1, 1) := by decide +kernel
theorem dX0_copyFrom_50 : decode cX0_copyFrom 50 = .ok (.getfield 33, 3) := by decide +kernel
theorem dX0_copyFrom_53 : decode cX0_copyFrom 53 = .ok (.putfield 33, 3) := by decide +kernel
theorem dX0_copyFrom_56 : decode cX0_copyFrom 56 = .ok (.aload_n 0, 1) := by decide +kernel
theorem dX0_copyFrom_57 : decode cX0_copyFrom 57 = .ok (.aload_n 1, 1) := by decide +kernel
theorem dX0_copyFrom_58 : decode cX0_copyFrom 58 = .ok (.getfield 36, 3) := by decide +kernel
theorem dX0_copyFrom_61 : decode cX0_copyFrom 61 = .ok (.putfield 36, 3) := by decide +kernel
theorem dX0_copyFrom_64 : decode cX0_copyFrom 64 = .ok (.aload_n 0, 1) := by decide +kernel
theorem dX0_copyFrom_65 : decode cX0_copyFrom 65 = .ok (.aload_n 1, 1) := by decide +kernel
theorem dX0_copyFrom_66 : decode cX0_copyFrom 66 = .ok (.getfield 15, 3) := by decide +kernel
theorem dX0_copyFrom_69 : decode cX0_copyFrom 69 = .ok (.putfield 15, 3) := by decide +kernel
theorem dX0_copyFrom_72 : decode cX0_copyFrom 72 = .ok (.return_, 1) := by decide +kernel
theorem dX0_begin_0 : decode cX0_begin 0 = .ok (.aload_n 0, 1) := by decide +kernel
theorem dX0_begin_1 : decode cX0_begin 1 = .ok (.iload_n 1, 1) := by decide +kernel
theorem dX0_begin_2 : decode cX0_begin 2 = .ok (.putfield 18, 3) := by decide +kernel
theorem dX0_begin_5 : decode cX0_begin 5 = .ok (.aload_n 0, 1) := by decide +kernel
theorem dX0_begin_6 : decode cX0_begin 6 = .ok (.iload_n 2, 1) := by decide +kernel
theorem dX0_begin_7 : decode cX0_begin 7 = .ok (.putfield 21, 3) := by decide +kernel
theorem dX0_begin_10 : decode cX0_begin 10 = .ok (.aload_n 0, 1) := by decide +kernel
theorem dX0_begin_11 : decode cX0_begin 11 = .ok (.iload_n 3, 1) := by decide +kernel
theorem dX0_begin_12 : decode cX0_begin 12 = .ok (.putfield 24, 3) := by decide +kernel
theorem dX0_begin_15 : decode cX0_begin 15 = .ok (.aload_n 0, 1) := by decide +kernel
theorem dX0_begin_16 : decode cX0_begin 16 = .ok (.iload 4, 2) := by decide +kernel
theorem dX0_begin_18 : decode cX0_begin 18 = .ok (.putfield 27, 3) := by decide +kernel
theorem dX0_begin_21 : decode cX0_begin 21 = .ok (.aload_n 0, 1) := by decide +kernel
theorem dX0_begin_22 : decode cX0_begin 22 = .ok (.bipush (-5), 2) := by decide +kernel
theorem dX0_begin_24 : decode cX0_begin 24 = .ok (.putfield 9, 3) := by decide +kernel
theorem dX0_begin_27 : decode cX0_begin 27 = .ok (.aload_n 0, 1) := by decide +kernel
theorem dX0_begin_28 : decode cX0_begin 28 = .ok (.iconst 0, 1) := by decide +kernel
theorem dX0_begin_29 : decode cX0_begin 29 = .ok (.putfield 30, 3) := by decide +kernel
theorem dX0_begin_32 : decode cX0_begin 32 = .ok (.aload_n 0, 1) := by decide +kernel
theorem dX0_begin_33 : decode cX0_begin 33 = .ok (.iconst 0, 1) := by decide +kernel
theorem dX0_begin_34 : decode cX0_begin 34 = .ok (.putfield 33, 3) := by decide +kernel
theorem dX0_begin_37 : decode cX0_begin 37 = .ok (.aload_n 0, 1) := by decide +kernel
theorem dX0_begin_38 : decode cX0_begin 38 = .ok (.iconst 0, 1) := by decide +kernel
theorem dX0_begin_39 : decode cX0_begin 39 = .ok (.putfield 36, 3) := by decide +kernel
theorem dX0_begin_42 : decode cX0_begin 42 = .ok (.aload_n 0, 1) := by decide +kernel
theorem dX0_begin_43 : decode cX0_begin 43 = .ok (.bipush (-5), 2) := by decide +kernel
theorem dX0_begin_45 : decode cX0_begin 45 = .ok (.putfield 15, 3) := by decide +kernel
theorem dX0_begin_48 : decode cX0_begin 48 = .ok (.return_, 1) := by decide +kernel
theorem dX0_isOpenIn_0 : decode cX0_isOpenIn 0 = .ok (.aload_n 0, 1) := by decide +kernel
theorem dX0_isOpenIn_1 : decode cX0_isOpenIn 1 = .ok (.getfield 24, 3) := by decide +kernel
theorem dX0_isOpenIn_4 : decode cX0_isOpenIn 4 = .ok (.iload_n 1, 1) := by decide +kernel
theorem dX0_isOpenIn_5 : decode cX0_isOpenIn 5 = .ok (.if_icmp .gt 15, 3) := by decide +kernel
theorem dX0_isOpenIn_8 : decode cX0_isOpenIn 8 = .ok (.iload_n 1, 1) := by decide +kernel
theorem dX0_isOpenIn_9 : decode cX0_isOpenIn 9 = .ok (.aload_n 0, 1) := by decide +kernel
theorem dX0_isOpenIn_10 : decode cX0_isOpenIn 10 = .ok (.getfield 27, 3) := by decide +kernel
theorem dX0_isOpenIn_13 : decode cX0_isOpenIn 13 = .ok (.if_icmp .ge 7, 3) := by decide +kernel
theorem dX0_isOpenIn_16 : decode cX0_isOpenIn 16 = .ok (.iconst 1, 1) := by decide +kernel
theorem dX0_isOpenIn_17 : decode cX0_isOpenIn 17 = .ok (.goto 4, 3) := by decide +kernel
theorem dX0_isOpenIn_20 : decode cX0_isOpenIn 20 = .ok (.iconst 0, 1) := by decide +kernel
theorem dX0_isOpenIn_21 : decode cX0_isOpenIn 21 = .ok (.ireturn, 1) := by decide +kernel
theorem dX0_needsMoreThan_0 : decode cX0_needsMoreThan 0 = .ok (.aload_n 0, 1) := by decide +kernel
theorem dX0_needsMoreThan_1 : decode cX0_needsMoreThan 1 = .ok (.getfield 18, 3) := by decide +kernel
theorem dX0_needsMoreThan_4 : decode cX0_needsMoreThan 4 = .ok (.aload_n 1, 1) := by decide +kernel
theorem dX0_needsMoreThan_5 : decode cX0_needsMoreThan 5 = .ok (.getfield 18, 3) := by decide +kernel
theorem dX0_needsMoreThan_8 : decode cX0_needsMoreThan 8 = .ok (.if_icmp .gt 25, 3) := by decide +kernel
theorem dX0_needsMoreThan_11 : decode cX0_needsMoreThan 11 = .ok (.aload_n 0, 1) := by decide +kernel
theorem dX0_needsMoreThan_12 : decode cX0_needsMoreThan 12 = .ok (.getfield 18, 3) := by decide +kernel
theorem dX0_needsMoreThan_15 : decode cX0_needsMoreThan 15 = .ok (.aload_n 1, 1) := by decide +kernel
theorem dX0_needsMoreThan_16 : decode cX0_needsMoreThan 16 = .ok (.getfield 18, 3) := by decide +kernel
theorem dX0_needsMoreThan_19 : decode cX0_needsMoreThan 19 = .ok (.if_icmp .ne 18, 3) := by decide +kernel
theorem dX0_needsMoreThan_22 : decode cX0_needsMoreThan 22 = .ok (.aload_n 0, 1) := by decide +kernel
theorem dX0_needsMoreThan_23 : decode cX0_needsMoreThan 23 = .ok (.getfield 21, 3) := by decide +kernel
theorem dX0_needsMoreThan_26 : decode cX0_needsMoreThan 26 = .ok (.aload_n 1, 1) := by decide +kernel
theorem dX0_needsMoreThan_27 : decode cX0_needsMoreThan 27 = .ok (.getfield 21, 3) := by decide +kernel
theorem dX0_needsMoreThan_30 : decode cX0_needsMoreThan 30 = .ok (.if_icmp .le 7, 3) := by decide +kernel
theorem dX0_needsMoreThan_33 : decode cX0_needsMoreThan 33 = .ok (.iconst 1, 1) := by decide +kernel
theorem dX0_needsMoreThan_34 : decode cX0_needsMoreThan 34 = .ok (.goto 4, 3) := by decide +kernel
theorem dX0_needsMoreThan_37 : decode cX0_needsMoreThan 37 = .ok (.iconst 0, 1) := by decide +kernel
theorem dX0_needsMoreThan_38 : decode cX0_needsMoreThan 38 = .ok (.ireturn, 1) := by decide +kernel
theorem dX0_darken_0 : decode cX0_darken 0 = .ok (.aload_n 0, 1) := by decide +kernel
theorem dX0_darken_1 : decode cX0_darken 1 = .ok (.dup, 1) := by decide +kernel
theorem dX0_darken_2 : decode cX0_darken 2 = .ok (.getfield 33, 3) := by decide +kernel
theorem dX0_darken_5 : decode cX0_darken 5 = .ok (.iconst 1, 1) := by decide +kernel
theorem dX0_darken_6 : decode cX0_darken 6 = .ok (.iadd, 1) := by decide +kernel
theorem dX0_darken_7 : decode cX0_darken 7 = .ok (.putfield 33, 3) := by decide +kernel
theorem dX0_darken_10 : decode cX0_darken 10 = .ok (.aload_n 0, 1) := by decide +kernel
theorem dX0_darken_11 : decode cX0_darken 11 = .ok (.iload_n 1, 1) := by decide +kernel
theorem dX0_darken_12 : decode cX0_darken 12 = .ok (.putfield 15, 3) := by decide +kernel
theorem dX0_darken_15 : decode cX0_darken 15 = .ok (.return_, 1) := by decide +kernel
theorem dX0_light_0 : decode cX0_light 0 = .ok (.aload_n 0, 1) := by decide +kernel
theorem dX0_light_1 : decode cX0_light 1 = .ok (.dup, 1) := by decide +kernel
theorem dX0_light_2 : decode cX0_light 2 = .ok (.getfield 30, 3) := by decide +kernel
theorem dX0_light_5 : decode cX0_light 5 = .ok (.iconst 1, 1) := by decide +kernel
theorem dX0_light_6 : decode cX0_light 6 = .ok (.iadd, 1) := by decide +kernel
theorem dX0_light_7 : decode cX0_light 7 = .ok (.putfield 30, 3) := by decide +kernel
theorem dX0_light_10 : decode cX0_light 10 = .ok (.aload_n 0, 1) := by decide +kernel
theorem dX0_light_11 : decode cX0_light 11 = .ok (.dup, 1) := by decide +kernel
theorem dX0_light_12 : decode cX0_light 12 = .ok (.getfield 36, 3) := by decide +kernel
theorem dX0_light_15 : decode cX0_light 15 = .ok (.iload_n 1, 1) := by decide +kernel
theorem dX0_light_16 : decode cX0_light 16 = .ok (.iadd, 1) := by decide +kernel
theorem dX0_light_17 : decode cX0_light 17 = .ok (.putfield 36, 3) := by decide +kernel
theorem dX0_light_20 : decode cX0_light 20 = .ok (.return_, 1) := by decide +kernel
theorem dX1_init_0 : decode cX1_init 0 = .ok (.aload_n 0, 1) := by decide +kernel
theorem dX1_init_1 : decode cX1_init 1 = .ok (.invokespecial 3, 3) := by decide +kernel
theorem dX1_init_4 : decode cX1_init 4 = .ok (.aload_n 0, 1) := by decide +kernel
theorem dX1_init_5 : decode cX1_init 5 = .ok (.bipush (-5), 2) := by decide +kernel
theorem dX1_init_7 : decode cX1_init 7 = .ok (.putfield 9, 3) := by decide +kernel
theorem dX1_init_10 : decode cX1_init 10 = .ok (.return_, 1) := by decide +kernel
theorem dX1_copyFrom_0 : decode cX1_copyFrom 0 = .ok (.aload_n 0, 1) := by decide +kernel
theorem dX1_copyFrom_1 : decode cX1_copyFrom 1 = .ok (.aload_n 1, 1) := by decide +kernel
theorem dX1_copyFrom_2 : decode cX1_copyFrom 2 = .ok (.getfield 15, 3) := by decide +kernel
theorem dX1_copyFrom_5 : decode cX1_copyFrom 5 = .ok (.putfield 15, 3) := by decide +kernel
theorem dX1_copyFrom_8 : decode cX1_copyFrom 8 = .ok (.aload_n 0, 1) := by decide +kernel
theorem dX1_copyFrom_9 : decode cX1_copyFrom 9 = .ok (.aload_n 1, 1) := by decide +kernel
theorem dX1_copyFrom_10 : decode cX1_copyFrom 10 = .ok (.getfield 18, 3) := by decide +kernel
theorem dX1_copyFrom_13 : decode cX1_copyFrom 13 = .ok (.putfield 18, 3) := by decide +kernel
theorem dX1_copyFrom_16 : decode cX1_copyFrom 16 = .ok (.aload_n 0, 1) := by decide +kernel
theorem dX1_copyFrom_17 : decode cX1_copyFrom 17 = .ok (.aload_n 1, 1) := by decide +kernel
theorem dX1_copyFrom_18 : decode cX1_copyFrom 18 = .ok (.getfield 21, 3) := by decide +kernel
theorem dX1_copyFrom_21 : decode cX1_copyFrom 21 = .ok (.putfield 21, 3) := by decide +kernel
theorem dX1_copyFrom_24 : decode cX1_copyFrom 24 = .ok (.aload_n 0, 1) := by decide +kernel
theorem dX1_copyFrom_25 : decode cX1_copyFrom 25 = .ok (.aload_n 1, 1) := by decide +kernel
theorem dX1_copyFrom_26 : decode cX1_copyFrom 26 = .ok (.getfield 24, 3) := by decide +kernel
theorem dX1_copyFrom_29 : decode cX1_copyFrom 29 = .ok (.putfield 24, 3) := by decide +kernel
theorem dX1_copyFrom_32 : decode cX1_copyFrom 32 = .ok (.aload_n 0, 1) := by decide +kernel
theorem dX1_copyFrom_33 : decode cX1_copyFrom 33 = .ok (.aload_n 1, 1) := by decide +kernel
theorem dX1_copyFrom_34 : decode cX1_copyFrom 34 = .ok (.getfield 27, 3) := by decide +kernel
theorem dX1_copyFrom_37 : decode cX1_copyFrom 37 = .ok (.putfield 27, 3) := by decide +kernel
theorem dX1_copyFrom_40 : decode cX1_copyFrom 40 = .ok (.aload_n 0, 1) := by decide +kernel
theorem dX1_copyFrom_41 : decode cX1_copyFrom 41 = .ok (.aload_n 1, 1) := by decide +kernel
theorem dX1_copyFrom_42 : decode cX1_copyFrom 42 = .ok (.getfield 9, 3) := by decide +kernel
theorem dX1_copyFrom_45 : decode cX1_copyFrom 45 = .ok (.putfield 9, 3) := by decide +kernel
theorem dX1_copyFrom_48 : decode cX1_copyFrom 48 = .ok (.aload_n 0, 1) := by decide +kernel
theorem dX1_copyFrom_49 : decode cX1_copyFrom 49 = .ok (.aload_n 1, 1) := by decide +kernel
theorem dX1_copyFrom_50 : decode cX1_copyFrom 50 = .ok (.getfield 30, 3) := by decide +kernel
theorem dX1_copyFrom_53 : decode cX1_copyFrom 53 = .ok (.putfield 30, 3) := by decide +kernel
theorem dX1_copyFrom_56 : decode cX1_copyFrom 56 = .ok (.aload_n 0, 1) := by decide +kernel
theorem dX1_copyFrom_57 : decode cX1_copyFrom 57 = .ok (.aload_n 1, 1) := by decide +kernel
theorem dX1_copyFrom_58 : decode cX1_copyFrom 58 = .ok (.getfield 34, 3) := by decide +kernel
theorem dX1_copyFrom_61 : decode cX1_copyFrom 61 = .ok (.putfield 34, 3) := by decide +kernel
theorem dX1_copyFrom_64 : decode cX1_copyFrom 64 = .ok (.aload_n 0, 1) := by decide +kernel
theorem dX1_copyFrom_65 : decode cX1_copyFrom 65 = .ok (.aload_n 1, 1) := by decide +kernel
theorem dX1_copyFrom_66 : decode cX1_copyFrom 66 = .ok (.getfield 37, 3) := by decide +kernel
theorem dX1_copyFrom_69 : decode cX1_copyFrom 69 = .ok (.putfield 37, 3) := by decide +kernel
theorem dX1_copyFrom_72 : decode cX1_copyFrom 72 = .ok (.return_, 1) := by decide +kernel
theorem dX1_room_0 : decode cX1_room 0 = .ok (.aload_n 0, 1) := by decide +kernel
theorem dX1_room_1 : decode cX1_room 1 = .ok (.getfield 18, 3) := by decide +kernel
theorem dX1_room_4 : decode cX1_room 4 = .ok (.aload_n 0, 1) := by decide +kernel
theorem dX1_room_5 : decode cX1_room 5 = .ok (.getfield 27, 3) := by decide +kernel
theorem dX1_room_8 : decode cX1_room 8 = .ok (.isub, 1) := by decide +kernel
theorem dX1_room_9 : decode cX1_room 9 = .ok (.ireturn, 1) := by decide +kernel
theorem dX1_hoursLeft_0 : decode cX1_hoursLeft 0 = .ok (.aload_n 0, 1) := by decide +kernel
theorem dX1_hoursLeft_1 : decode cX1_hoursLeft 1 = .ok (.getfield 21, 3) := by decide +kernel
theorem dX1_hoursLeft_4 : decode cX1_hoursLeft 4 = .ok (.ifCond .le 15, 3) := by decide +kernel
theorem dX1_hoursLeft_7 : decode cX1_hoursLeft 7 = .ok (.aload_n 0, 1) := by decide +kernel
theorem dX1_hoursLeft_8 : decode cX1_hoursLeft 8 = .ok (.getfield 27, 3) := by decide +kernel
theorem dX1_hoursLeft_11 : decode cX1_hoursLeft 11 = .ok (.aload_n 0, 1) := by decide +kernel
theorem dX1_hoursLeft_12 : decode cX1_hoursLeft 12 = .ok (.getfield 21, 3) := by decide +kernel
theorem dX1_hoursLeft_15 : decode cX1_hoursLeft 15 = .ok (.idiv, 1) := by decide +kernel
theorem dX1_hoursLeft_16 : decode cX1_hoursLeft 16 = .ok (.goto 4, 3) := by decide +kernel
theorem dX1_hoursLeft_19 : decode cX1_hoursLeft 19 = .ok (.iconst 0, 1) := by decide +kernel
theorem dX1_hoursLeft_20 : decode cX1_hoursLeft 20 = .ok (.ireturn, 1) := by decide +kernel
theorem dX1_moveTo_0 : decode cX1_moveTo 0 = .ok (.aload_n 0, 1) := by decide +kernel
theorem dX1_moveTo_1 : decode cX1_moveTo 1 = .ok (.iload_n 1, 1) := by decide +kernel
theorem dX1_moveTo_2 : decode cX1_moveTo 2 = .ok (.putfield 9, 3) := by decide +kernel
theorem dX1_moveTo_5 : decode cX1_moveTo 5 = .ok (.aload_n 0, 1) := by decide +kernel
theorem dX1_moveTo_6 : decode cX1_moveTo 6 = .ok (.iconst 0, 1) := by decide +kernel
theorem dX1_moveTo_7 : decode cX1_moveTo 7 = .ok (.putfield 30, 3) := by decide +kernel
theorem dX1_moveTo_10 : decode cX1_moveTo 10 = .ok (.aload_n 0, 1) := by decide +kernel
theorem dX1_moveTo_11 : decode cX1_moveTo 11 = .ok (.iconst 0, 1) := by decide +kernel
theorem dX1_moveTo_12 : decode cX1_moveTo 12 = .ok (.putfield 34, 3) := by decide +kernel
theorem dX1_moveTo_15 : decode cX1_moveTo 15 = .ok (.return_, 1) := by decide +kernel
theorem dX1_causeAt_0 : decode cX1_causeAt 0 = .ok (.aload_n 0, 1) := by decide +kernel
theorem dX1_causeAt_1 : decode cX1_causeAt 1 = .ok (.getfield 30, 3) := by decide +kernel
theorem dX1_causeAt_4 : decode cX1_causeAt 4 = .ok (.ifCond .eq 5, 3) := by decide +kernel
theorem dX1_causeAt_7 : decode cX1_causeAt 7 = .ok (.iconst 0, 1) := by decide +kernel
theorem dX1_causeAt_8 : decode cX1_causeAt 8 = .ok (.ireturn, 1) := by decide +kernel
theorem dX1_causeAt_9 : decode cX1_causeAt 9 = .ok (.aload_n 0, 1) := by decide +kernel
theorem dX1_causeAt_10 : decode cX1_causeAt 10 = .ok (.getfield 27, 3) := by decide +kernel
theorem dX1_causeAt_13 : decode cX1_causeAt 13 = .ok (.aload_n 0, 1) := by decide +kernel
theorem dX1_causeAt_14 : decode cX1_causeAt 14 = .ok (.getfield 21, 3) := by decide +kernel
theorem dX1_causeAt_17 : decode cX1_causeAt 17 = .ok (.if_icmp .ge 5, 3) := by decide +kernel
theorem dX1_causeAt_20 : decode cX1_causeAt 20 = .ok (.iconst 2, 1) := by decide +kernel
theorem dX1_causeAt_21 : decode cX1_causeAt 21 = .ok (.ireturn, 1) := by decide +kernel
theorem dX1_causeAt_22 : decode cX1_causeAt 22 = .ok (.iload_n 1, 1) := by decide +kernel
theorem dX1_causeAt_23 : decode cX1_causeAt 23 = .ok (.aload_n 0, 1) := by decide +kernel
theorem dX1_causeAt_24 : decode cX1_causeAt 24 = .ok (.getfield 24, 3) := by decide +kernel
theorem dX1_causeAt_27 : decode cX1_causeAt 27 = .ok (.if_icmp .ge 22, 3) := by decide +kernel
theorem dX1_causeAt_30 : decode cX1_causeAt 30 = .ok (.aload_n 0, 1) := by decide +kernel
theorem dX1_causeAt_31 : decode cX1_causeAt 31 = .ok (.getfield 24, 3) := by decide +kernel
theorem dX1_causeAt_34 : decode cX1_causeAt 34 = .ok (.iload_n 1, 1) := by decide +kernel
theorem dX1_causeAt_35 : decode cX1_causeAt 35 = .ok (.isub, 1) := by decide +kernel
theorem dX1_causeAt_36 : decode cX1_causeAt 36 = .ok (.iconst 5, 1) := by decide +kernel
theorem dX1_causeAt_37 : decode cX1_causeAt 37 = .ok (.aload_n 0, 1) := by decide +kernel
theorem dX1_causeAt_38 : decode cX1_causeAt 38 = .ok (.getfield 34, 3) := by decide +kernel
theorem dX1_causeAt_41 : decode cX1_causeAt 41 = .ok (.imul, 1) := by decide +kernel
theorem dX1_causeAt_42 : decode cX1_causeAt 42 = .ok (.if_icmp .le 7, 3) := by decide +kernel
theorem dX1_causeAt_45 : decode cX1_causeAt 45 = .ok (.iconst 3, 1) := by decide +kernel
theorem dX1_causeAt_46 : decode cX1_causeAt 46 = .ok (.goto 4, 3) := by decide +kernel
theorem dX1_causeAt_49 : decode cX1_causeAt 49 = .ok (.iconst 0, 1) := by decide +kernel
theorem dX1_causeAt_50 : decode cX1_causeAt 50 = .ok (.ireturn, 1) := by decide +kernel
theorem dX1_burnHour_0 : decode cX1_burnHour 0 = .ok (.aload_n 0, 1) := by decide +kernel
theorem dX1_burnHour_1 : decode cX1_burnHour 1 = .ok (.dup, 1) := by decide +kernel
theorem dX1_burnHour_2 : decode cX1_burnHour 2 = .ok (.getfield 27, 3) := by decide +kernel
theorem dX1_burnHour_5 : decode cX1_burnHour 5 = .ok (.aload_n 0, 1) := by decide +kernel
theorem dX1_burnHour_6 : decode cX1_burnHour 6 = .ok (.getfield 21, 3) := by decide +kernel
theorem dX1_burnHour_9 : decode cX1_burnHour 9 = .ok (.isub, 1) := by decide +kernel
theorem dX1_burnHour_10 : decode cX1_burnHour 10 = .ok (.putfield 27, 3) := by decide +kernel
theorem dX1_burnHour_13 : decode cX1_burnHour 13 = .ok (.aload_n 0, 1) := by decide +kernel
theorem dX1_burnHour_14 : decode cX1_burnHour 14 = .ok (.dup, 1) := by decide +kernel
theorem dX1_burnHour_15 : decode cX1_burnHour 15 = .ok (.getfield 37, 3) := by decide +kernel
theorem dX1_burnHour_18 : decode cX1_burnHour 18 = .ok (.iconst 1, 1) := by decide +kernel
theorem dX1_burnHour_19 : decode cX1_burnHour 19 = .ok (.iadd, 1) := by decide +kernel
theorem dX1_burnHour_20 : decode cX1_burnHour 20 = .ok (.putfield 37, 3) := by decide +kernel
theorem dX1_burnHour_23 : decode cX1_burnHour 23 = .ok (.aload_n 0, 1) := by decide +kernel
theorem dX1_burnHour_24 : decode cX1_burnHour 24 = .ok (.aload_n 0, 1) := by decide +kernel
theorem dX1_burnHour_25 : decode cX1_burnHour 25 = .ok (.getfield 27, 3) := by decide +kernel
theorem dX1_burnHour_28 : decode cX1_burnHour 28 = .ok (.aload_n 0, 1) := by decide +kernel
theorem dX1_burnHour_29 : decode cX1_burnHour 29 = .ok (.getfield 21, 3) := by decide +kernel
theorem dX1_burnHour_32 : decode cX1_burnHour 32 = .ok (.if_icmp .lt 7, 3) := by decide +kernel
theorem dX1_burnHour_35 : decode cX1_burnHour 35 = .ok (.iconst 1, 1) := by decide +kernel
theorem dX1_burnHour_36 : decode cX1_burnHour 36 = .ok (.goto 4, 3) := by decide +kernel
theorem dX1_burnHour_39 : decode cX1_burnHour 39 = .ok (.iconst 0, 1) := by decide +kernel
theorem dX1_burnHour_40 : decode cX1_burnHour 40 = .ok (.putfield 30, 3) := by decide +kernel
theorem dX1_burnHour_43 : decode cX1_burnHour 43 = .ok (.return_, 1) := by decide +kernel
theorem dX2_init_0 : decode cX2_init 0 = .ok (.aload_n 0, 1) := by decide +kernel
theorem dX2_init_1 : decode cX2_init 1 = .ok (.invokespecial 3, 3) := by decide +kernel
theorem dX2_init_4 : decode cX2_init 4 = .ok (.aload_n 0, 1) := by decide +kernel
theorem dX2_init_5 : decode cX2_init 5 = .ok (.iconst 5, 1) := by decide +kernel
theorem dX2_init_6 : decode cX2_init 6 = .ok (.anewarray 9, 3) := by decide +kernel
theorem dX2_init_9 : decode cX2_init 9 = .ok (.putfield 11, 3) := by decide +kernel
theorem dX2_init_12 : decode cX2_init 12 = .ok (.iconst 0, 1) := by decide +kernel
theorem dX2_init_13 : decode cX2_init 13 = .ok (.istore_n 1, 1) := by decide +kernel
theorem dX2_init_14 : decode cX2_init 14 = .ok (.iload_n 1, 1) := by decide +kernel
theorem dX2_init_15 : decode cX2_init 15 = .ok (.iconst 5, 1) := by decide +kernel
theorem dX2_init_16 : decode cX2_init 16 = .ok (.if_icmp .ge 22, 3) := by decide +kernel
theorem dX2_init_19 : decode cX2_init 19 = .ok (.aload_n 0, 1) := by decide +kernel
theorem dX2_init_20 : decode cX2_init 20 = .ok (.getfield 11, 3) := by decide +kernel
theorem dX2_init_23 : decode cX2_init 23 = .ok (.iload_n 1, 1) := by decide +kernel
theorem dX2_init_24 : decode cX2_init 24 = .ok (.new 9, 3) := by decide +kernel
theorem dX2_init_27 : decode cX2_init 27 = .ok (.dup, 1) := by decide +kernel
theorem dX2_init_28 : decode cX2_init 28 = .ok (.invokespecial 17, 3) := by decide +kernel
theorem dX2_init_31 : decode cX2_init 31 = .ok (.aastore, 1) := by decide +kernel
theorem dX2_init_32 : decode cX2_init 32 = .ok (.iinc 1 1, 3) := by decide +kernel
theorem dX2_init_35 : decode cX2_init 35 = .ok (.goto (-21), 3) := by decide +kernel
theorem dX2_init_38 : decode cX2_init 38 = .ok (.return_, 1) := by decide +kernel
theorem dX2_push_0 : decode cX2_push 0 = .ok (.aload_n 0, 1) := by decide +kernel
theorem dX2_push_1 : decode cX2_push 1 = .ok (.getfield 11, 3) := by decide +kernel
theorem dX2_push_4 : decode cX2_push 4 = .ok (.aload_n 0, 1) := by decide +kernel
theorem dX2_push_5 : decode cX2_push 5 = .ok (.getfield 18, 3) := by decide +kernel
theorem dX2_push_8 : decode cX2_push 8 = .ok (.aload_n 0, 1) := by decide +kernel
theorem dX2_push_9 : decode cX2_push 9 = .ok (.getfield 22, 3) := by decide +kernel
theorem dX2_push_12 : decode cX2_push 12 = .ok (.iadd, 1) := by decide +kernel
theorem dX2_push_13 : decode cX2_push 13 = .ok (.iconst 5, 1) := by decide +kernel
theorem dX2_push_14 : decode cX2_push 14 = .ok (.irem, 1) := by decide +kernel
theorem dX2_push_15 : decode cX2_push 15 = .ok (.aaload, 1) := by decide +kernel
theorem dX2_push_16 : decode cX2_push 16 = .ok (.aload_n 1, 1) := by decide +kernel
theorem dX2_push_17 : decode cX2_push 17 = .ok (.invokevirtual 25, 3) := by decide +kernel
theorem dX2_push_20 : decode cX2_push 20 = .ok (.aload_n 0, 1) := by decide +kernel
theorem dX2_push_21 : decode cX2_push 21 = .ok (.getfield 22, 3) := by decide +kernel
theorem dX2_push_24 : decode cX2_push 24 = .ok (.iconst 5, 1) := by decide +kernel
theorem dX2_push_25 : decode cX2_push 25 = .ok (.if_icmp .ge 16, 3) := by decide +kernel
theorem dX2_push_28 : decode cX2_push 28 = .ok (.aload_n 0, 1) := by decide +kernel
theorem dX2_push_29 : decode cX2_push 29 = .ok (.dup, 1) := by decide +kernel
theorem dX2_push_30 : decode cX2_push 30 = .ok (.getfield 22, 3) := by decide +kernel
theorem dX2_push_33 : decode cX2_push 33 = .ok (.iconst 1, 1) := by decide +kernel
theorem dX2_push_34 : decode cX2_push 34 = .ok (.iadd, 1) := by decide +kernel
theorem dX2_push_35 : decode cX2_push 35 = .ok (.putfield 22, 3) := by decide +kernel
theorem dX2_push_38 : decode cX2_push 38 = .ok (.goto 15, 3) := by decide +kernel
theorem dX2_push_41 : decode cX2_push 41 = .ok (.aload_n 0, 1) := by decide +kernel
theorem dX2_push_42 : decode cX2_push 42 = .ok (.aload_n 0, 1) := by decide +kernel
theorem dX2_push_43 : decode cX2_push 43 = .ok (.getfield 18, 3) := by decide +kernel
theorem dX2_push_46 : decode cX2_push 46 = .ok (.iconst 1, 1) := by decide +kernel
theorem dX2_push_47 : decode cX2_push 47 = .ok (.iadd, 1) := by decide +kernel
theorem dX2_push_48 : decode cX2_push 48 = .ok (.iconst 5, 1) := by decide +kernel
theorem dX2_push_49 : decode cX2_push 49 = .ok (.irem, 1) := by decide +kernel
theorem dX2_push_50 : decode cX2_push 50 = .ok (.putfield 18, 3) := by decide +kernel
theorem dX2_push_53 : decode cX2_push 53 = .ok (.return_, 1) := by decide +kernel
theorem dX2_popInto_0 : decode cX2_popInto 0 = .ok (.aload_n 0, 1) := by decide +kernel
theorem dX2_popInto_1 : decode cX2_popInto 1 = .ok (.getfield 22, 3) := by decide +kernel
theorem dX2_popInto_4 : decode cX2_popInto 4 = .ok (.ifCond .gt 5, 3) := by decide +kernel
theorem dX2_popInto_7 : decode cX2_popInto 7 = .ok (.iconst 0, 1) := by decide +kernel
theorem dX2_popInto_8 : decode cX2_popInto 8 = .ok (.ireturn, 1) := by decide +kernel
theorem dX2_popInto_9 : decode cX2_popInto 9 = .ok (.aload_n 0, 1) := by decide +kernel
theorem dX2_popInto_10 : decode cX2_popInto 10 = .ok (.dup, 1) := by decide +kernel
theorem dX2_popInto_11 : decode cX2_popInto 11 = .ok (.getfield 22, 3) := by decide +kernel
theorem dX2_popInto_14 : decode cX2_popInto 14 = .ok (.iconst 1, 1) := by decide +kernel
theorem dX2_popInto_15 : decode cX2_popInto 15 = .ok (.isub, 1) := by decide +kernel
theorem dX2_popInto_16 : decode cX2_popInto 16 = .ok (.putfield 22, 3) := by decide +kernel
theorem dX2_popInto_19 : decode cX2_popInto 19 = .ok (.aload_n 1, 1) := by decide +kernel
theorem dX2_popInto_20 : decode cX2_popInto 20 = .ok (.aload_n 0, 1) := by decide +kernel
theorem dX2_popInto_21 : decode cX2_popInto 21 = .ok (.getfield 11, 3) := by decide +kernel
theorem dX2_popInto_24 : decode cX2_popInto 24 = .ok (.aload_n 0, 1) := by decide +kernel
theorem dX2_popInto_25 : decode cX2_popInto 25 = .ok (.getfield 18, 3) := by decide +kernel
theorem dX2_popInto_28 : decode cX2_popInto 28 = .ok (.aload_n 0, 1) := by decide +kernel
theorem dX2_popInto_29 : decode cX2_popInto 29 = .ok (.getfield 22, 3) := by decide +kernel
theorem dX2_popInto_32 : decode cX2_popInto 32 = .ok (.iadd, 1) := by decide +kernel
theorem dX2_popInto_33 : decode cX2_popInto 33 = .ok (.iconst 5, 1) := by decide +kernel
theorem dX2_popInto_34 : decode cX2_popInto 34 = .ok (.irem, 1) := by decide +kernel
theorem dX2_popInto_35 : decode cX2_popInto 35 = .ok (.aaload, 1) := by decide +kernel
theorem dX2_popInto_36 : decode cX2_popInto 36 = .ok (.invokevirtual 25, 3) := by decide +kernel
theorem dX2_popInto_39 : decode cX2_popInto 39 = .ok (.iconst 1, 1) := by decide +kernel
theorem dX2_popInto_40 : decode cX2_popInto 40 = .ok (.ireturn, 1) := by decide +kernel
theorem dX3_init_0 : decode cX3_init 0 = .ok (.aload_n 0, 1) := by decide +kernel
theorem dX3_init_1 : decode cX3_init 1 = .ok (.invokespecial 3, 3) := by decide +kernel
theorem dX3_init_4 : decode cX3_init 4 = .ok (.aload_n 0, 1) := by decide +kernel
theorem dX3_init_5 : decode cX3_init 5 = .ok (.bipush 60, 2) := by decide +kernel
theorem dX3_init_7 : decode cX3_init 7 = .ok (.newarray .char, 2) := by decide +kernel
theorem dX3_init_9 : decode cX3_init 9 = .ok (.putfield 9, 3) := by decide +kernel
theorem dX3_init_12 : decode cX3_init 12 = .ok (.aload_n 0, 1) := by decide +kernel
theorem dX3_init_13 : decode cX3_init 13 = .ok (.bipush 8, 2) := by decide +kernel
theorem dX3_init_15 : decode cX3_init 15 = .ok (.anewarray 15, 3) := by decide +kernel
theorem dX3_init_18 : decode cX3_init 18 = .ok (.putfield 17, 3) := by decide +kernel
theorem dX3_init_21 : decode cX3_init 21 = .ok (.iconst 0, 1) := by decide +kernel
theorem dX3_init_22 : decode cX3_init 22 = .ok (.istore_n 1, 1) := by decide +kernel
theorem dX3_init_23 : decode cX3_init 23 = .ok (.iload_n 1, 1) := by decide +kernel
theorem dX3_init_24 : decode cX3_init 24 = .ok (.bipush 8, 2) := by decide +kernel
theorem dX3_init_26 : decode cX3_init 26 = .ok (.if_icmp .ge 22, 3) := by decide +kernel
theorem dX3_init_29 : decode cX3_init 29 = .ok (.aload_n 0, 1) := by decide +kernel
theorem dX3_init_30 : decode cX3_init 30 = .ok (.getfield 17, 3) := by decide +kernel
theorem dX3_init_33 : decode cX3_init 33 = .ok (.iload_n 1, 1) := by decide +kernel
theorem dX3_init_34 : decode cX3_init 34 = .ok (.new 15, 3) := by decide +kernel
theorem dX3_init_37 : decode cX3_init 37 = .ok (.dup, 1) := by decide +kernel
theorem dX3_init_38 : decode cX3_init 38 = .ok (.invokespecial 21, 3) := by decide +kernel
theorem dX3_init_41 : decode cX3_init 41 = .ok (.aastore, 1) := by decide +kernel
theorem dX3_init_42 : decode cX3_init 42 = .ok (.iinc 1 1, 3) := by decide +kernel
theorem dX3_init_45 : decode cX3_init 45 = .ok (.goto (-22), 3) := by decide +kernel
theorem dX3_init_48 : decode cX3_init 48 = .ok (.return_, 1) := by decide +kernel
theorem dX3_append_0 : decode cX3_append 0 = .ok (.aload_n 0, 1) := by decide +kernel
theorem dX3_append_1 : decode cX3_append 1 = .ok (.getfield 22, 3) := by decide +kernel
theorem dX3_append_4 : decode cX3_append 4 = .ok (.bipush 60, 2) := by decide +kernel
theorem dX3_append_6 : decode cX3_append 6 = .ok (.if_icmp .lt 5, 3) := by decide +kernel
theorem dX3_append_9 : decode cX3_append 9 = .ok (.iconst 0, 1) := by decide +kernel
theorem dX3_append_10 : decode cX3_append 10 = .ok (.ireturn, 1) := by decide +kernel
theorem dX3_append_11 : decode cX3_append 11 = .ok (.aload_n 0, 1) := by decide +kernel
theorem dX3_append_12 : decode cX3_append 12 = .ok (.getfield 9, 3) := by decide +kernel
theorem dX3_append_15 : decode cX3_append 15 = .ok (.aload_n 0, 1) := by decide +kernel
theorem dX3_append_16 : decode cX3_append 16 = .ok (.getfield 22, 3) := by decide +kernel
theorem dX3_append_19 : decode cX3_append 19 = .ok (.iload_n 1, 1) := by decide +kernel
theorem dX3_append_20 : decode cX3_append 20 = .ok (.castore, 1) := by decide +kernel
theorem dX3_append_21 : decode cX3_append 21 = .ok (.aload_n 0, 1) := by decide +kernel
theorem dX3_append_22 : decode cX3_append 22 = .ok (.dup, 1) := by decide +kernel
theorem dX3_append_23 : decode cX3_append 23 = .ok (.getfield 22, 3) := by decide +kernel
theorem dX3_append_26 : decode cX3_append 26 = .ok (.iconst 1, 1) := by decide +kernel
theorem dX3_append_27 : decode cX3_append 27 = .ok (.iadd, 1) := by decide +kernel
theorem dX3_append_28 : decode cX3_append 28 = .ok (.putfield 22, 3) := by decide +kernel
theorem dX3_append_31 : decode cX3_append 31 = .ok (.iconst 1, 1) := by decide +kernel
theorem dX3_append_32 : decode cX3_append 32 = .ok (.ireturn, 1) := by decide +kernel
theorem dX3_read_0 : decode cX3_read 0 = .ok (.aload_n 0, 1) := by decide +kernel
theorem dX3_read_1 : decode cX3_read 1 = .ok (.iconst 0, 1) := by decide +kernel
theorem dX3_read_2 : decode cX3_read 2 = .ok (.putfield 26, 3) := by decide +kernel
theorem dX3_read_5 : decode cX3_read 5 = .ok (.aload_n 0, 1) := by decide +kernel
theorem dX3_read_6 : decode cX3_read 6 = .ok (.iconst 0, 1) := by decide +kernel
theorem dX3_read_7 : decode cX3_read 7 = .ok (.putfield 29, 3) := by decide +kernel
theorem dX3_read_10 : decode cX3_read 10 = .ok (.aload_n 0, 1) := by decide +kernel
theorem dX3_read_11 : decode cX3_read 11 = .ok (.invokevirtual 32, 3) := by decide +kernel
theorem dX3_read_14 : decode cX3_read 14 = .ok (.istore_n 1, 1) := by decide +kernel
theorem dX3_read_15 : decode cX3_read 15 = .ok (.iconst 1, 1) := by decide +kernel
theorem dX3_read_16 : decode cX3_read 16 = .ok (.istore_n 2, 1) := by decide +kernel
theorem dX3_read_17 : decode cX3_read 17 = .ok (.iload_n 2, 1) := by decide +kernel
theorem dX3_read_18 : decode cX3_read 18 = .ok (.bipush 8, 2) := by decide +kernel
theorem dX3_read_20 : decode cX3_read 20 = .ok (.if_icmp .ge 46, 3) := by decide +kernel
theorem dX3_read_23 : decode cX3_read 23 = .ok (.iload_n 1, 1) := by decide +kernel
theorem dX3_read_24 : decode cX3_read 24 = .ok (.ifCond .eq 42, 3) := by decide +kernel
theorem dX3_read_27 : decode cX3_read 27 = .ok (.aload_n 0, 1) := by decide +kernel
theorem dX3_read_28 : decode cX3_read 28 = .ok (.getfield 26, 3) := by decide +kernel
theorem dX3_read_31 : decode cX3_read 31 = .ok (.aload_n 0, 1) := by decide +kernel
theorem dX3_read_32 : decode cX3_read 32 = .ok (.getfield 22, 3) := by decide +kernel
theorem dX3_read_35 : decode cX3_read 35 = .ok (.if_icmp .ge 31, 3) := by decide +kernel
theorem dX3_read_38 : decode cX3_read 38 = .ok (.aload_n 0, 1) := by decide +kernel
theorem dX3_read_39 : decode cX3_read 39 = .ok (.bipush 59, 2) := by decide +kernel
theorem dX3_read_41 : decode cX3_read 41 = .ok (.invokevirtual 36, 3) := by decide +kernel
theorem dX3_read_44 : decode cX3_read 44 = .ok (.ifCond .eq 14, 3) := by decide +kernel
theorem dX3_read_47 : decode cX3_read 47 = .ok (.aload_n 0, 1) := by decide +kernel
theorem dX3_read_48 : decode cX3_read 48 = .ok (.invokevirtual 32, 3) := by decide +kernel
theorem dX3_read_51 : decode cX3_read 51 = .ok (.ifCond .eq 7, 3) := by decide +kernel
theorem dX3_read_54 : decode cX3_read 54 = .ok (.iconst 1, 1) := by decide +kernel
theorem dX3_read_55 : decode cX3_read 55 = .ok (.goto 4, 3) := by decide +kernel
theorem dX3_read_58 : decode cX3_read 58 = .ok (.iconst 0, 1) := by decide +kernel
theorem dX3_read_59 : decode cX3_read 59 = .ok (.istore_n 1, 1) := by decide +kernel
theorem dX3_read_60 : decode cX3_read 60 = .ok (.iinc 2 1, 3) := by decide +kernel
theorem dX3_read_63 : decode cX3_read 63 = .ok (.goto (-46), 3) := by decide +kernel
theorem dX3_read_66 : decode cX3_read 66 = .ok (.iload_n 1, 1) := by decide +kernel
theorem dX3_read_67 : decode cX3_read 67 = .ok (.ireturn, 1) := by decide +kernel
theorem dX3_readSite_0 : decode cX3_readSite 0 = .ok (.aload_n 0, 1) := by decide +kernel
theorem dX3_readSite_1 : decode cX3_readSite 1 = .ok (.bipush 49, 2) := by decide +kernel
theorem dX3_readSite_3 : decode cX3_readSite 3 = .ok (.iconst 1, 1) := by decide +kernel
theorem dX3_readSite_4 : decode cX3_readSite 4 = .ok (.invokevirtual 40, 3) := by decide +kernel
theorem dX3_readSite_7 : decode cX3_readSite 7 = .ok (.istore_n 1, 1) := by decide +kernel
theorem dX3_readSite_8 : decode cX3_readSite 8 = .ok (.iload_n 1, 1) := by decide +kernel
theorem dX3_readSite_9 : decode cX3_readSite 9 = .ok (.iconst (-1), 1) := by decide +kernel
theorem dX3_readSite_10 : decode cX3_readSite 10 = .ok (.if_icmp .eq 12, 3) := by decide +kernel
theorem dX3_readSite_13 : decode cX3_readSite 13 = .ok (.aload_n 0, 1) := by decide +kernel
theorem dX3_readSite_14 : decode cX3_readSite 14 = .ok (.bipush 42, 2) := by decide +kernel
theorem dX3_readSite_16 : decode cX3_readSite 16 = .ok (.invokevirtual 36, 3) := by decide +kernel
theorem dX3_readSite_19 : decode cX3_readSite 19 = .ok (.ifCond .ne 5, 3) := by decide +kernel
theorem dX3_readSite_22 : decode cX3_readSite 22 = .ok (.iconst 0, 1) := by decide +kernel
theorem dX3_readSite_23 : decode cX3_readSite 23 = .ok (.ireturn, 1) := by decide +kernel
theorem dX3_readSite_24 : decode cX3_readSite 24 = .ok (.aload_n 0, 1) := by decide +kernel
theorem dX3_readSite_25 : decode cX3_readSite 25 = .ok (.bipush 49, 2) := by decide +kernel
theorem dX3_readSite_27 : decode cX3_readSite 27 = .ok (.iconst 2, 1) := by decide +kernel
theorem dX3_readSite_28 : decode cX3_readSite 28 = .ok (.invokevirtual 40, 3) := by decide +kernel
theorem dX3_readSite_31 : decode cX3_readSite 31 = .ok (.istore_n 2, 1) := by decide +kernel
theorem dX3_readSite_32 : decode cX3_readSite 32 = .ok (.iload_n 2, 1) := by decide +kernel
theorem dX3_readSite_33 : decode cX3_readSite 33 = .ok (.iconst (-1), 1) := by decide +kernel
theorem dX3_readSite_34 : decode cX3_readSite 34 = .ok (.if_icmp .eq 12, 3) := by decide +kernel
theorem dX3_readSite_37 : decode cX3_readSite 37 = .ok (.aload_n 0, 1) := by decide +kernel
theorem dX3_readSite_38 : decode cX3_readSite 38 = .ok (.bipush 64, 2) := by decide +kernel
theorem dX3_readSite_40 : decode cX3_readSite 40 = .ok (.invokevirtual 36, 3) := by decide +kernel
theorem dX3_readSite_43 : decode cX3_readSite 43 = .ok (.ifCond .ne 5, 3) := by decide +kernel
theorem dX3_readSite_46 : decode cX3_readSite 46 = .ok (.iconst 0, 1) := by decide +kernel
theorem dX3_readSite_47 : decode cX3_readSite 47 = .ok (.ireturn, 1) := by decide +kernel
theorem dX3_readSite_48 : decode cX3_readSite 48 = .ok (.aload_n 0, 1) := by decide +kernel
theorem dX3_readSite_49 : decode cX3_readSite 49 = .ok (.bipush 48, 2) := by decide +kernel
theorem dX3_readSite_51 : decode cX3_readSite 51 = .ok (.iconst 3, 1) := by decide +kernel
theorem dX3_readSite_52 : decode cX3_readSite 52 = .ok (.invokevirtual 40, 3) := by decide +kernel
theorem dX3_readSite_55 : decode cX3_readSite 55 = .ok (.istore_n 3, 1) := by decide +kernel
theorem dX3_readSite_56 : decode cX3_readSite 56 = .ok (.iload_n 3, 1) := by decide +kernel
theorem dX3_readSite_57 : decode cX3_readSite 57 = .ok (.iconst (-1), 1) := by decide +kernel
theorem dX3_readSite_58 : decode cX3_readSite 58 = .ok (.if_icmp .eq 12, 3) := by decide +kernel
theorem dX3_readSite_61 : decode cX3_readSite 61 = .ok (.aload_n 0, 1) := by decide +kernel
theorem dX3_readSite_62 : decode cX3_readSite 62 = .ok (.bipush 45, 2) := by decide +kernel
theorem dX3_readSite_64 : decode cX3_readSite 64 = .ok (.invokevirtual 36, 3) := by decide +kernel
theorem dX3_readSite_67 : decode cX3_readSite 67 = .ok (.ifCond .ne 5, 3) := by decide +kernel
theorem dX3_readSite_70 : decode cX3_readSite 70 = .ok (.iconst 0, 1) := by decide +kernel
theorem dX3_readSite_71 : decode cX3_readSite 71 = .ok (.ireturn, 1) := by decide +kernel
theorem dX3_readSite_72 : decode cX3_readSite 72 = .ok (.aload_n 0, 1) := by decide +kernel
theorem dX3_readSite_73 : decode cX3_readSite 73 = .ok (.bipush 48, 2) := by decide +kernel
theorem dX3_readSite_75 : decode cX3_readSite 75 = .ok (.iconst 3, 1) := by decide +kernel
theorem dX3_readSite_76 : decode cX3_readSite 76 = .ok (.invokevirtual 40, 3) := by decide +kernel
theorem dX3_readSite_79 : decode cX3_readSite 79 = .ok (.istore 4, 2) := by decide +kernel
theorem dX3_readSite_81 : decode cX3_readSite 81 = .ok (.iload 4, 2) := by decide +kernel
theorem dX3_readSite_83 : decode cX3_readSite 83 = .ok (.iconst (-1), 1) := by decide +kernel
theorem dX3_readSite_84 : decode cX3_readSite 84 = .ok (.if_icmp .eq 12, 3) := by decide +kernel
theorem dX3_readSite_87 : decode cX3_readSite 87 = .ok (.aload_n 0, 1) := by decide +kernel
theorem dX3_readSite_88 : decode cX3_readSite 88 = .ok (.getfield 29, 3) := by decide +kernel
theorem dX3_readSite_91 : decode cX3_readSite 91 = .ok (.bipush 8, 2) := by decide +kernel
theorem dX3_readSite_93 : decode cX3_readSite 93 = .ok (.if_icmp .lt 5, 3) := by decide +kernel
theorem dX3_readSite_96 : decode cX3_readSite 96 = .ok (.iconst 0, 1) := by decide +kernel
theorem dX3_readSite_97 : decode cX3_readSite 97 = .ok (.ireturn, 1) := by decide +kernel
theorem dX3_readSite_98 : decode cX3_readSite 98 = .ok (.aload_n 0, 1) := by decide +kernel
theorem dX3_readSite_99 : decode cX3_readSite 99 = .ok (.getfield 17, 3) := by decide +kernel
theorem dX3_readSite_102 : decode cX3_readSite 102 = .ok (.aload_n 0, 1) := by decide +kernel
theorem dX3_readSite_103 : decode cX3_readSite 103 = .ok (.getfield 29, 3) := by decide +kernel
theorem dX3_readSite_106 : decode cX3_readSite 106 = .ok (.aaload, 1) := by decide +kernel
theorem dX3_readSite_107 : decode cX3_readSite 107 = .ok (.iload_n 1, 1) := by decide +kernel
theorem dX3_readSite_108 : decode cX3_readSite 108 = .ok (.iload_n 2, 1) := by decide +kernel
theorem dX3_readSite_109 : decode cX3_readSite 109 = .ok (.iload_n 3, 1) := by decide +kernel
theorem dX3_readSite_110 : decode cX3_readSite 110 = .ok (.iload 4, 2) := by decide +kernel
theorem dX3_readSite_112 : decode cX3_readSite 112 = .ok (.invokevirtual 44, 3) := by decide +kernel
theorem dX3_readSite_115 : decode cX3_readSite 115 = .ok (.aload_n 0, 1) := by decide +kernel
theorem dX3_readSite_116 : decode cX3_readSite 116 = .ok (.dup, 1) := by decide +kernel
theorem dX3_readSite_117 : decode cX3_readSite 117 = .ok (.getfield 29, 3) := by decide +kernel
theorem dX3_readSite_120 : decode cX3_readSite 120 = .ok (.iconst 1, 1) := by decide +kernel
theorem dX3_readSite_121 : decode cX3_readSite 121 = .ok (.iadd, 1) := by decide +kernel
theorem dX3_readSite_122 : decode cX3_readSite 122 = .ok (.putfield 29, 3) := by decide +kernel
theorem dX3_readSite_125 : decode cX3_readSite 125 = .ok (.iconst 1, 1) := by decide +kernel
theorem dX3_readSite_126 : decode cX3_readSite 126 = .ok (.ireturn, 1) := by decide +kernel
theorem dX3_readNumber_0 : decode cX3_readNumber 0 = .ok (.aload_n 0, 1) := by decide +kernel
theorem dX3_readNumber_1 : decode cX3_readNumber 1 = .ok (.iload_n 1, 1) := by decide +kernel
theorem dX3_readNumber_2 : decode cX3_readNumber 2 = .ok (.invokevirtual 48, 3) := by decide +kernel
theorem dX3_readNumber_5 : decode cX3_readNumber 5 = .ok (.ifCond .ne 5, 3) := by decide +kernel
theorem dX3_readNumber_8 : decode cX3_readNumber 8 = .ok (.iconst (-1), 1) := by decide +kernel
theorem dX3_readNumber_9 : decode cX3_readNumber 9 = .ok (.ireturn, 1) := by decide +kernel
theorem dX3_readNumber_10 : decode cX3_readNumber 10 = .ok (.aload_n 0, 1) := by decide +kernel
theorem dX3_readNumber_11 : decode cX3_readNumber 11 = .ok (.getfield 9, 3) := by decide +kernel
theorem dX3_readNumber_14 : decode cX3_readNumber 14 = .ok (.aload_n 0, 1) := by decide +kernel
theorem dX3_readNumber_15 : decode cX3_readNumber 15 = .ok (.getfield 26, 3) := by decide +kernel
theorem dX3_readNumber_18 : decode cX3_readNumber 18 = .ok (.caload, 1) := by decide +kernel
theorem dX3_readNumber_19 : decode cX3_readNumber 19 = .ok (.bipush 48, 2) := by decide +kernel
theorem dX3_readNumber_21 : decode cX3_readNumber 21 = .ok (.isub, 1) := by decide +kernel
theorem dX3_readNumber_22 : decode cX3_readNumber 22 = .ok (.istore_n 3, 1) := by decide +kernel
theorem dX3_readNumber_23 : decode cX3_readNumber 23 = .ok (.aload_n 0, 1) := by decide +kernel
theorem dX3_readNumber_24 : decode cX3_readNumber 24 = .ok (.dup, 1) := by decide +kernel
theorem dX3_readNumber_25 : decode cX3_readNumber 25 = .ok (.getfield 26, 3) := by decide +kernel
theorem dX3_readNumber_28 : decode cX3_readNumber 28 = .ok (.iconst 1, 1) := by decide +kernel
theorem dX3_readNumber_29 : decode cX3_readNumber 29 = .ok (.iadd, 1) := by decide +kernel
theorem dX3_readNumber_30 : decode cX3_readNumber 30 = .ok (.putfield 26, 3) := by decide +kernel
theorem dX3_readNumber_33 : decode cX3_readNumber 33 = .ok (.iload_n 3, 1) := by decide +kernel
theorem dX3_readNumber_34 : decode cX3_readNumber 34 = .ok (.ifCond .ne 7, 3) := by decide +kernel
theorem dX3_readNumber_37 : decode cX3_readNumber 37 = .ok (.iconst 0, 1) := by decide +kernel
theorem dX3_readNumber_38 : decode cX3_readNumber 38 = .ok (.goto 6, 3) := by decide +kernel
theorem dX3_readNumber_41 : decode cX3_readNumber 41 = .ok (.iload_n 2, 1) := by decide +kernel
theorem dX3_readNumber_42 : decode cX3_readNumber 42 = .ok (.iconst 1, 1) := by decide +kernel
theorem dX3_readNumber_43 : decode cX3_readNumber 43 = .ok (.isub, 1) := by decide +kernel
theorem dX3_readNumber_44 : decode cX3_readNumber 44 = .ok (.istore 4, 2) := by decide +kernel
theorem dX3_readNumber_46 : decode cX3_readNumber 46 = .ok (.iconst 0, 1) := by decide +kernel
theorem dX3_readNumber_47 : decode cX3_readNumber 47 = .ok (.istore 5, 2) := by decide +kernel
theorem dX3_readNumber_49 : decode cX3_readNumber 49 = .ok (.iload 5, 2) := by decide +kernel
theorem dX3_readNumber_51 : decode cX3_readNumber 51 = .ok (.iload 4, 2) := by decide +kernel
theorem dX3_readNumber_53 : decode cX3_readNumber 53 = .ok (.if_icmp .ge 46, 3) := by decide +kernel
theorem dX3_readNumber_56 : decode cX3_readNumber 56 = .ok (.aload_n 0, 1) := by decide +kernel
theorem dX3_readNumber_57 : decode cX3_readNumber 57 = .ok (.bipush 48, 2) := by decide +kernel
theorem dX3_readNumber_59 : decode cX3_readNumber 59 = .ok (.invokevirtual 48, 3) := by decide +kernel
theorem dX3_readNumber_62 : decode cX3_readNumber 62 = .ok (.ifCond .eq 37, 3) := by decide +kernel
theorem dX3_readNumber_65 : decode cX3_readNumber 65 = .ok (.bipush 10, 2) := by decide +kernel
theorem dX3_readNumber_67 : decode cX3_readNumber 67 = .ok (.iload_n 3, 1) := by decide +kernel
theorem dX3_readNumber_68 : decode cX3_readNumber 68 = .ok (.imul, 1) := by decide +kernel
theorem dX3_readNumber_69 : decode cX3_readNumber 69 = .ok (.aload_n 0, 1) := by decide +kernel
theorem dX3_readNumber_70 : decode cX3_readNumber 70 = .ok (.getfield 9, 3) := by decide +kernel
theorem dX3_readNumber_73 : decode cX3_readNumber 73 = .ok (.aload_n 0, 1) := by decide +kernel
theorem dX3_readNumber_74 : decode cX3_readNumber 74 = .ok (.getfield 26, 3) := by decide +kernel
theorem dX3_readNumber_77 : decode cX3_readNumber 77 = .ok (.caload, 1) := by decide +kernel
theorem dX3_readNumber_78 : decode cX3_readNumber 78 = .ok (.bipush 48, 2) := by decide +kernel
theorem dX3_readNumber_80 : decode cX3_readNumber 80 = .ok (.isub, 1) := by decide +kernel
theorem dX3_readNumber_81 : decode cX3_readNumber 81 = .ok (.iadd, 1) := by decide +kernel
theorem dX3_readNumber_82 : decode cX3_readNumber 82 = .ok (.istore_n 3, 1) := by decide +kernel
theorem dX3_readNumber_83 : decode cX3_readNumber 83 = .ok (.aload_n 0, 1) := by decide +kernel
theorem dX3_readNumber_84 : decode cX3_readNumber 84 = .ok (.dup, 1) := by decide +kernel
theorem dX3_readNumber_85 : decode cX3_readNumber 85 = .ok (.getfield 26, 3) := by decide +kernel
theorem dX3_readNumber_88 : decode cX3_readNumber 88 = .ok (.iconst 1, 1) := by decide +kernel
theorem dX3_readNumber_89 : decode cX3_readNumber 89 = .ok (.iadd, 1) := by decide +kernel
theorem dX3_readNumber_90 : decode cX3_readNumber 90 = .ok (.putfield 26, 3) := by decide +kernel
theorem dX3_readNumber_93 : decode cX3_readNumber 93 = .ok (.iinc 5 1, 3) := by decide +kernel
theorem dX3_readNumber_96 : decode cX3_readNumber 96 = .ok (.goto (-47), 3) := by decide +kernel
theorem dX3_readNumber_99 : decode cX3_readNumber 99 = .ok (.iload_n 3, 1) := by decide +kernel
theorem dX3_readNumber_100 : decode cX3_readNumber 100 = .ok (.ireturn, 1) := by decide +kernel
theorem dX3_isDigitFrom_0 : decode cX3_isDigitFrom 0 = .ok (.aload_n 0, 1) := by decide +kernel
theorem dX3_isDigitFrom_1 : decode cX3_isDigitFrom 1 = .ok (.getfield 26, 3) := by decide +kernel
theorem dX3_isDigitFrom_4 : decode cX3_isDigitFrom 4 = .ok (.aload_n 0, 1) := by decide +kernel
theorem dX3_isDigitFrom_5 : decode cX3_isDigitFrom 5 = .ok (.getfield 22, 3) := by decide +kernel
theorem dX3_isDigitFrom_8 : decode cX3_isDigitFrom 8 = .ok (.if_icmp .ge 34, 3) := by decide +kernel
theorem dX3_isDigitFrom_11 : decode cX3_isDigitFrom 11 = .ok (.aload_n 0, 1) := by decide +kernel
theorem dX3_isDigitFrom_12 : decode cX3_isDigitFrom 12 = .ok (.getfield 9, 3) := by decide +kernel
theorem dX3_isDigitFrom_15 : decode cX3_isDigitFrom 15 = .ok (.aload_n 0, 1) := by decide +kernel
theorem dX3_isDigitFrom_16 : decode cX3_isDigitFrom 16 = .ok (.getfield 26, 3) := by decide +kernel
theorem dX3_isDigitFrom_19 : decode cX3_isDigitFrom 19 = .ok (.caload, 1) := by decide +kernel
theorem dX3_isDigitFrom_20 : decode cX3_isDigitFrom 20 = .ok (.iload_n 1, 1) := by decide +kernel
theorem dX3_isDigitFrom_21 : decode cX3_isDigitFrom 21 = .ok (.if_icmp .lt 21, 3) := by decide +kernel
theorem dX3_isDigitFrom_24 : decode cX3_isDigitFrom 24 = .ok (.aload_n 0, 1) := by decide +kernel
theorem dX3_isDigitFrom_25 : decode cX3_isDigitFrom 25 = .ok (.getfield 9, 3) := by decide +kernel
theorem dX3_isDigitFrom_28 : decode cX3_isDigitFrom 28 = .ok (.aload_n 0, 1) := by decide +kernel
theorem dX3_isDigitFrom_29 : decode cX3_isDigitFrom 29 = .ok (.getfield 26, 3) := by decide +kernel
theorem dX3_isDigitFrom_32 : decode cX3_isDigitFrom 32 = .ok (.caload, 1) := by decide +kernel
theorem dX3_isDigitFrom_33 : decode cX3_isDigitFrom 33 = .ok (.bipush 57, 2) := by decide +kernel
theorem dX3_isDigitFrom_35 : decode cX3_isDigitFrom 35 = .ok (.if_icmp .gt 7, 3) := by decide +kernel
theorem dX3_isDigitFrom_38 : decode cX3_isDigitFrom 38 = .ok (.iconst 1, 1) := by decide +kernel
theorem dX3_isDigitFrom_39 : decode cX3_isDigitFrom 39 = .ok (.goto 4, 3) := by decide +kernel
theorem dX3_isDigitFrom_42 : decode cX3_isDigitFrom 42 = .ok (.iconst 0, 1) := by decide +kernel
theorem dX3_isDigitFrom_43 : decode cX3_isDigitFrom 43 = .ok (.ireturn, 1) := by decide +kernel
theorem dX3_skip_0 : decode cX3_skip 0 = .ok (.aload_n 0, 1) := by decide +kernel
theorem dX3_skip_1 : decode cX3_skip 1 = .ok (.getfield 26, 3) := by decide +kernel
theorem dX3_skip_4 : decode cX3_skip 4 = .ok (.aload_n 0, 1) := by decide +kernel
theorem dX3_skip_5 : decode cX3_skip 5 = .ok (.getfield 22, 3) := by decide +kernel
theorem dX3_skip_8 : decode cX3_skip 8 = .ok (.if_icmp .ge 16, 3) := by decide +kernel
theorem dX3_skip_11 : decode cX3_skip 11 = .ok (.aload_n 0, 1) := by decide +kernel
theorem dX3_skip_12 : decode cX3_skip 12 = .ok (.getfield 9, 3) := by decide +kernel
theorem dX3_skip_15 : decode cX3_skip 15 = .ok (.aload_n 0, 1) := by decide +kernel
theorem dX3_skip_16 : decode cX3_skip 16 = .ok (.getfield 26, 3) := by decide +kernel
theorem dX3_skip_19 : decode cX3_skip 19 = .ok (.caload, 1) := by decide +kernel
theorem dX3_skip_20 : decode cX3_skip 20 = .ok (.iload_n 1, 1) := by decide +kernel
theorem dX3_skip_21 : decode cX3_skip 21 = .ok (.if_icmp .eq 5, 3) := by decide +kernel
theorem dX3_skip_24 : decode cX3_skip 24 = .ok (.iconst 0, 1) := by decide +kernel
theorem dX3_skip_25 : decode cX3_skip 25 = .ok (.ireturn, 1) := by decide +kernel
theorem dX3_skip_26 : decode cX3_skip 26 = .ok (.aload_n 0, 1) := by decide +kernel
theorem dX3_skip_27 : decode cX3_skip 27 = .ok (.dup, 1) := by decide +kernel
theorem dX3_skip_28 : decode cX3_skip 28 = .ok (.getfield 26, 3) := by decide +kernel
theorem dX3_skip_31 : decode cX3_skip 31 = .ok (.iconst 1, 1) := by decide +kernel
theorem dX3_skip_32 : decode cX3_skip 32 = .ok (.iadd, 1) := by decide +kernel
theorem dX3_skip_33 : decode cX3_skip 33 = .ok (.putfield 26, 3) := by decide +kernel
theorem dX3_skip_36 : decode cX3_skip 36 = .ok (.iconst 1, 1) := by decide +kernel
theorem dX3_skip_37 : decode cX3_skip 37 = .ok (.ireturn, 1) := by decide +kernel
theorem dX4_init_0 : decode cX4_init 0 = .ok (.aload_n 0, 1) := by decide +kernel
theorem dX4_init_1 : decode cX4_init 1 = .ok (.invokespecial 3, 3) := by decide +kernel
theorem dX4_init_4 : decode cX4_init 4 = .ok (.aload_n 0, 1) := by decide +kernel
theorem dX4_init_5 : decode cX4_init 5 = .ok (.iconst 5, 1) := by decide +kernel
theorem dX4_init_6 : decode cX4_init 6 = .ok (.putfield 9, 3) := by decide +kernel
theorem dX4_init_9 : decode cX4_init 9 = .ok (.aload_n 0, 1) := by decide +kernel
theorem dX4_init_10 : decode cX4_init 10 = .ok (.bipush 10, 2) := by decide +kernel
theorem dX4_init_12 : decode cX4_init 12 = .ok (.putfield 15, 3) := by decide +kernel
theorem dX4_init_15 : decode cX4_init 15 = .ok (.aload_n 0, 1) := by decide +kernel
theorem dX4_init_16 : decode cX4_init 16 = .ok (.bipush 10, 2) := by decide +kernel
theorem dX4_init_18 : decode cX4_init 18 = .ok (.anewarray 18, 3) := by decide +kernel
theorem dX4_init_21 : decode cX4_init 21 = .ok (.putfield 20, 3) := by decide +kernel
theorem dX4_init_24 : decode cX4_init 24 = .ok (.aload_n 0, 1) := by decide +kernel
theorem dX4_init_25 : decode cX4_init 25 = .ok (.bipush 12, 2) := by decide +kernel
theorem dX4_init_27 : decode cX4_init 27 = .ok (.anewarray 24, 3) := by decide +kernel
theorem dX4_init_30 : decode cX4_init 30 = .ok (.putfield 26, 3) := by decide +kernel
theorem dX4_init_33 : decode cX4_init 33 = .ok (.iconst 0, 1) := by decide +kernel
theorem dX4_init_34 : decode cX4_init 34 = .ok (.istore_n 1, 1) := by decide +kernel
theorem dX4_init_35 : decode cX4_init 35 = .ok (.iload_n 1, 1) := by decide +kernel
theorem dX4_init_36 : decode cX4_init 36 = .ok (.bipush 10, 2) := by decide +kernel
theorem dX4_init_38 : decode cX4_init 38 = .ok (.if_icmp .ge 22, 3) := by decide +kernel
theorem dX4_init_41 : decode cX4_init 41 = .ok (.aload_n 0, 1) := by decide +kernel
theorem dX4_init_42 : decode cX4_init 42 = .ok (.getfield 20, 3) := by decide +kernel
theorem dX4_init_45 : decode cX4_init 45 = .ok (.iload_n 1, 1) := by decide +kernel
theorem dX4_init_46 : decode cX4_init 46 = .ok (.new 18, 3) := by decide +kernel
theorem dX4_init_49 : decode cX4_init 49 = .ok (.dup, 1) := by decide +kernel
theorem dX4_init_50 : decode cX4_init 50 = .ok (.invokespecial 30, 3) := by decide +kernel
theorem dX4_init_53 : decode cX4_init 53 = .ok (.aastore, 1) := by decide +kernel
theorem dX4_init_54 : decode cX4_init 54 = .ok (.iinc 1 1, 3) := by decide +kernel
theorem dX4_init_57 : decode cX4_init 57 = .ok (.goto (-22), 3) := by decide +kernel
theorem dX4_init_60 : decode cX4_init 60 = .ok (.iconst 0, 1) := by decide +kernel
theorem dX4_init_61 : decode cX4_init 61 = .ok (.istore_n 1, 1) := by decide +kernel
theorem dX4_init_62 : decode cX4_init 62 = .ok (.iload_n 1, 1) := by decide +kernel
theorem dX4_init_63 : decode cX4_init 63 = .ok (.bipush 12, 2) := by decide +kernel
theorem dX4_init_65 : decode cX4_init 65 = .ok (.if_icmp .ge 22, 3) := by decide +kernel
theorem dX4_init_68 : decode cX4_init 68 = .ok (.aload_n 0, 1) := by decide +kernel
theorem dX4_init_69 : decode cX4_init 69 = .ok (.getfield 26, 3) := by decide +kernel
theorem dX4_init_72 : decode cX4_init 72 = .ok (.iload_n 1, 1) := by decide +kernel
theorem dX4_init_73 : decode cX4_init 73 = .ok (.new 24, 3) := by decide +kernel
theorem dX4_init_76 : decode cX4_init 76 = .ok (.dup, 1) := by decide +kernel
theorem dX4_init_77 : decode cX4_init 77 = .ok (.invokespecial 31, 3) := by decide +kernel
theorem dX4_init_80 : decode cX4_init 80 = .ok (.aastore, 1) := by decide +kernel
theorem dX4_init_81 : decode cX4_init 81 = .ok (.iinc 1 1, 3) := by decide +kernel
theorem dX4_init_84 : decode cX4_init 84 = .ok (.goto (-22), 3) := by decide +kernel
theorem dX4_init_87 : decode cX4_init 87 = .ok (.return_, 1) := by decide +kernel
theorem dX4_copyFrom_0 : decode cX4_copyFrom 0 = .ok (.aload_n 0, 1) := by decide +kernel
theorem dX4_copyFrom_1 : decode cX4_copyFrom 1 = .ok (.aload_n 1, 1) := by decide +kernel
theorem dX4_copyFrom_2 : decode cX4_copyFrom 2 = .ok (.getfield 32, 3) := by decide +kernel
theorem dX4_copyFrom_5 : decode cX4_copyFrom 5 = .ok (.putfield 32, 3) := by decide +kernel
theorem dX4_copyFrom_8 : decode cX4_copyFrom 8 = .ok (.aload_n 0, 1) := by decide +kernel
theorem dX4_copyFrom_9 : decode cX4_copyFrom 9 = .ok (.aload_n 1, 1) := by decide +kernel
theorem dX4_copyFrom_10 : decode cX4_copyFrom 10 = .ok (.getfield 9, 3) := by decide +kernel
theorem dX4_copyFrom_13 : decode cX4_copyFrom 13 = .ok (.putfield 9, 3) := by decide +kernel
theorem dX4_copyFrom_16 : decode cX4_copyFrom 16 = .ok (.aload_n 0, 1) := by decide +kernel
theorem dX4_copyFrom_17 : decode cX4_copyFrom 17 = .ok (.aload_n 1, 1) := by decide +kernel
theorem dX4_copyFrom_18 : decode cX4_copyFrom 18 = .ok (.getfield 15, 3) := by decide +kernel
theorem dX4_copyFrom_21 : decode cX4_copyFrom 21 = .ok (.putfield 15, 3) := by decide +kernel
theorem dX4_copyFrom_24 : decode cX4_copyFrom 24 = .ok (.aload_n 0, 1) := by decide +kernel
theorem dX4_copyFrom_25 : decode cX4_copyFrom 25 = .ok (.aload_n 1, 1) := by decide +kernel
theorem dX4_copyFrom_26 : decode cX4_copyFrom 26 = .ok (.getfield 35, 3) := by decide +kernel
theorem dX4_copyFrom_29 : decode cX4_copyFrom 29 = .ok (.putfield 35, 3) := by decide +kernel
theorem dX4_copyFrom_32 : decode cX4_copyFrom 32 = .ok (.aload_n 0, 1) := by decide +kernel
theorem dX4_copyFrom_33 : decode cX4_copyFrom 33 = .ok (.aload_n 1, 1) := by decide +kernel
theorem dX4_copyFrom_34 : decode cX4_copyFrom 34 = .ok (.getfield 38, 3) := by decide +kernel
theorem dX4_copyFrom_37 : decode cX4_copyFrom 37 = .ok (.putfield 38, 3) := by decide +kernel
theorem dX4_copyFrom_40 : decode cX4_copyFrom 40 = .ok (.aload_n 0, 1) := by decide +kernel
theorem dX4_copyFrom_41 : decode cX4_copyFrom 41 = .ok (.aload_n 1, 1) := by decide +kernel
theorem dX4_copyFrom_42 : decode cX4_copyFrom 42 = .ok (.getfield 41, 3) := by decide +kernel
theorem dX4_copyFrom_45 : decode cX4_copyFrom 45 = .ok (.putfield 41, 3) := by decide +kernel
theorem dX4_copyFrom_48 : decode cX4_copyFrom 48 = .ok (.aload_n 0, 1) := by decide +kernel
theorem dX4_copyFrom_49 : decode cX4_copyFrom 49 = .ok (.aload_n 1, 1) := by decide +kernel
theorem dX4_copyFrom_50 : decode cX4_copyFrom 50 = .ok (.getfield 44, 3) := by decide +kernel
theorem dX4_copyFrom_53 : decode cX4_copyFrom 53 = .ok (.putfield 44, 3) := by decide +kernel
theorem dX4_copyFrom_56 : decode cX4_copyFrom 56 = .ok (.aload_n 0, 1) := by decide +kernel
theorem dX4_copyFrom_57 : decode cX4_copyFrom 57 = .ok (.aload_n 1, 1) := by decide +kernel
theorem dX4_copyFrom_58 : decode cX4_copyFrom 58 = .ok (.getfield 47, 3) := by decide +kernel
theorem dX4_copyFrom_61 : decode cX4_copyFrom 61 = .ok (.putfield 47, 3) := by decide +kernel
theorem dX4_copyFrom_64 : decode cX4_copyFrom 64 = .ok (.aload_n 0, 1) := by decide +kernel
theorem dX4_copyFrom_65 : decode cX4_copyFrom 65 = .ok (.aload_n 1, 1) := by decide +kernel
theorem dX4_copyFrom_66 : decode cX4_copyFrom 66 = .ok (.getfield 50, 3) := by decide +kernel
theorem dX4_copyFrom_69 : decode cX4_copyFrom 69 = .ok (.putfield 50, 3) := by decide +kernel
theorem dX4_copyFrom_72 : decode cX4_copyFrom 72 = .ok (.iconst 0, 1) := by decide +kernel
theorem dX4_copyFrom_73 : decode cX4_copyFrom 73 = .ok (.istore_n 2, 1) := by decide +kernel
theorem dX4_copyFrom_74 : decode cX4_copyFrom 74 = .ok (.iload_n 2, 1) := by decide +kernel
theorem dX4_copyFrom_75 : decode cX4_copyFrom 75 = .ok (.aload_n 0, 1) := by decide +kernel
theorem dX4_copyFrom_76 : decode cX4_copyFrom 76 = .ok (.getfield 47, 3) := by decide +kernel
theorem dX4_copyFrom_79 : decode cX4_copyFrom 79 = .ok (.if_icmp .ge 24, 3) := by decide +kernel
theorem dX4_copyFrom_82 : decode cX4_copyFrom 82 = .ok (.aload_n 0, 1) := by decide +kernel
theorem dX4_copyFrom_83 : decode cX4_copyFrom 83 = .ok (.getfield 20, 3) := by decide +kernel
theorem dX4_copyFrom_86 : decode cX4_copyFrom 86 = .ok (.iload_n 2, 1) := by decide +kernel
theorem dX4_copyFrom_87 : decode cX4_copyFrom 87 = .ok (.aaload, 1) := by decide +kernel
theorem dX4_copyFrom_88 : decode cX4_copyFrom 88 = .ok (.aload_n 1, 1) := by decide +kernel
theorem dX4_copyFrom_89 : decode cX4_copyFrom 89 = .ok (.getfield 20, 3) := by decide +kernel
theorem dX4_copyFrom_92 : decode cX4_copyFrom 92 = .ok (.iload_n 2, 1) := by decide +kernel
theorem dX4_copyFrom_93 : decode cX4_copyFrom 93 = .ok (.aaload, 1) := by decide +kernel
theorem dX4_copyFrom_94 : decode cX4_copyFrom 94 = .ok (.invokevirtual 53, 3) := by decide +kernel
theorem dX4_copyFrom_97 : decode cX4_copyFrom 97 = .ok (.iinc 2 1, 3) := by decide +kernel
theorem dX4_copyFrom_100 : decode cX4_copyFrom 100 = .ok (.goto (-26), 3) := by decide +kernel
theorem dX4_copyFrom_103 : decode cX4_copyFrom 103 = .ok (.iconst 0, 1) := by decide +kernel
theorem dX4_copyFrom_104 : decode cX4_copyFrom 104 = .ok (.istore_n 2, 1) := by decide +kernel
theorem dX4_copyFrom_105 : decode cX4_copyFrom 105 = .ok (.iload_n 2, 1) := by decide +kernel
theorem dX4_copyFrom_106 : decode cX4_copyFrom 106 = .ok (.aload_n 0, 1) := by decide +kernel
theorem dX4_copyFrom_107 : decode cX4_copyFrom 107 = .ok (.getfield 50, 3) := by decide +kernel
theorem dX4_copyFrom_110 : decode cX4_copyFrom 110 = .ok (.if_icmp .ge 24, 3) := by decide +kernel
theorem dX4_copyFrom_113 : decode cX4_copyFrom 113 = .ok (.aload_n 0, 1) := by decide +kernel
theorem dX4_copyFrom_114 : decode cX4_copyFrom 114 = .ok (.getfield 26, 3) := by decide +kernel
theorem dX4_copyFrom_117 : decode cX4_copyFrom 117 = .ok (.iload_n 2, 1) := by decide +kernel
theorem dX4_copyFrom_118 : decode cX4_copyFrom 118 = .ok (.aaload, 1) := by decide +kernel
theorem dX4_copyFrom_119 : decode cX4_copyFrom 119 = .ok (.aload_n 1, 1) := by decide +kernel
theorem dX4_copyFrom_120 : decode cX4_copyFrom 120 = .ok (.getfield 26, 3) := by decide +kernel
theorem dX4_copyFrom_123 : decode cX4_copyFrom 123 = .ok (.iload_n 2, 1) := by decide +kernel
theorem dX4_copyFrom_124 : decode cX4_copyFrom 124 = .ok (.aaload, 1) := by decide +kernel
theorem dX4_copyFrom_125 : decode cX4_copyFrom 125 = .ok (.invokevirtual 57, 3) := by decide +kernel
theorem dX4_copyFrom_128 : decode cX4_copyFrom 128 = .ok (.iinc 2 1, 3) := by decide +kernel
theorem dX4_copyFrom_131 : decode cX4_copyFrom 131 = .ok (.goto (-26), 3) := by decide +kernel
theorem dX4_copyFrom_134 : decode cX4_copyFrom 134 = .ok (.return_, 1) := by decide +kernel
theorem dX4_isSet_0 : decode cX4_isSet 0 = .ok (.iload_n 1, 1) := by decide +kernel
theorem dX4_isSet_1 : decode cX4_isSet 1 = .ok (.ifCond .lt 15, 3) := by decide +kernel
theorem dX4_isSet_4 : decode cX4_isSet 4 = .ok (.iload_n 1, 1) := by decide +kernel
theorem dX4_isSet_5 : decode cX4_isSet 5 = .ok (.aload_n 0, 1) := by decide +kernel
theorem dX4_isSet_6 : decode cX4_isSet 6 = .ok (.getfield 47, 3) := by decide +kernel
theorem dX4_isSet_9 : decode cX4_isSet 9 = .ok (.if_icmp .ge 7, 3) := by decide +kernel
theorem dX4_isSet_12 : decode cX4_isSet 12 = .ok (.iconst 1, 1) := by decide +kernel
theorem dX4_isSet_13 : decode cX4_isSet 13 = .ok (.goto 4, 3) := by decide +kernel
theorem dX4_isSet_16 : decode cX4_isSet 16 = .ok (.iconst 0, 1) := by decide +kernel
theorem dX4_isSet_17 : decode cX4_isSet 17 = .ok (.ireturn, 1) := by decide +kernel
theorem dX4_isSite_0 : decode cX4_isSite 0 = .ok (.iload_n 1, 1) := by decide +kernel
theorem dX4_isSite_1 : decode cX4_isSite 1 = .ok (.ifCond .lt 15, 3) := by decide +kernel
theorem dX4_isSite_4 : decode cX4_isSite 4 = .ok (.iload_n 1, 1) := by decide +kernel
theorem dX4_isSite_5 : decode cX4_isSite 5 = .ok (.aload_n 0, 1) := by decide +kernel
theorem dX4_isSite_6 : decode cX4_isSite 6 = .ok (.getfield 50, 3) := by decide +kernel
theorem dX4_isSite_9 : decode cX4_isSite 9 = .ok (.if_icmp .ge 7, 3) := by decide +kernel
theorem dX4_isSite_12 : decode cX4_isSite 12 = .ok (.iconst 1, 1) := by decide +kernel
theorem dX4_isSite_13 : decode cX4_isSite 13 = .ok (.goto 4, 3) := by decide +kernel
theorem dX4_isSite_16 : decode cX4_isSite 16 = .ok (.iconst 0, 1) := by decide +kernel
theorem dX4_isSite_17 : decode cX4_isSite 17 = .ok (.ireturn, 1) := by decide +kernel
theorem dX4_allowsHours_0 : decode cX4_allowsHours 0 = .ok (.iload_n 1, 1) := by decide +kernel
theorem dX4_allowsHours_1 : decode cX4_allowsHours 1 = .ok (.iconst 0, 1) := by decide +kernel
theorem dX4_allowsHours_2 : decode cX4_allowsHours 2 = .ok (.sipush 998, 3) := by decide +kernel
theorem dX4_allowsHours_5 : decode cX4_allowsHours 5 = .ok (.invokestatic 60, 3) := by decide +kernel
theorem dX4_allowsHours_8 : decode cX4_allowsHours 8 = .ok (.ifCond .eq 27, 3) := by decide +kernel
theorem dX4_allowsHours_11 : decode cX4_allowsHours 11 = .ok (.iload_n 2, 1) := by decide +kernel
theorem dX4_allowsHours_12 : decode cX4_allowsHours 12 = .ok (.iload_n 1, 1) := by decide +kernel
theorem dX4_allowsHours_13 : decode cX4_allowsHours 13 = .ok (.if_icmp .le 22, 3) := by decide +kernel
theorem dX4_allowsHours_16 : decode cX4_allowsHours 16 = .ok (.iload_n 2, 1) := by decide +kernel
theorem dX4_allowsHours_17 : decode cX4_allowsHours 17 = .ok (.aload_n 0, 1) := by decide +kernel
theorem dX4_allowsHours_18 : decode cX4_allowsHours 18 = .ok (.getfield 32, 3) := by decide +kernel
theorem dX4_allowsHours_21 : decode cX4_allowsHours 21 = .ok (.if_icmp .le 14, 3) := by decide +kernel
theorem dX4_allowsHours_24 : decode cX4_allowsHours 24 = .ok (.iload_n 2, 1) := by decide +kernel
theorem dX4_allowsHours_25 : decode cX4_allowsHours 25 = .ok (.sipush 999, 3) := by decide +kernel
theorem dX4_allowsHours_28 : decode cX4_allowsHours 28 = .ok (.if_icmp .gt 7, 3) := by decide +kernel
theorem dX4_allowsHours_31 : decode cX4_allowsHours 31 = .ok (.iconst 1, 1) := by decide +kernel
theorem dX4_allowsHours_32 : decode cX4_allowsHours 32 = .ok (.goto 4, 3) := by decide +kernel
theorem dX4_allowsHours_35 : decode cX4_allowsHours 35 = .ok (.iconst 0, 1) := by decide +kernel
theorem dX4_allowsHours_36 : decode cX4_allowsHours 36 = .ok (.ireturn, 1) := by decide +kernel
theorem dX4_appendSet_0 : decode cX4_appendSet 0 = .ok (.aload_n 0, 1) := by decide +kernel
theorem dX4_appendSet_1 : decode cX4_appendSet 1 = .ok (.getfield 20, 3) := by decide +kernel
theorem dX4_appendSet_4 : decode cX4_appendSet 4 = .ok (.aload_n 0, 1) := by decide +kernel
theorem dX4_appendSet_5 : decode cX4_appendSet 5 = .ok (.getfield 47, 3) := by decide +kernel
theorem dX4_appendSet_8 : decode cX4_appendSet 8 = .ok (.aaload, 1) := by decide +kernel
theorem dX4_appendSet_9 : decode cX4_appendSet 9 = .ok (.astore 5, 2) := by decide +kernel
theorem dX4_appendSet_11 : decode cX4_appendSet 11 = .ok (.aload 5, 2) := by decide +kernel
theorem dX4_appendSet_13 : decode cX4_appendSet 13 = .ok (.iload_n 1, 1) := by decide +kernel
theorem dX4_appendSet_14 : decode cX4_appendSet 14 = .ok (.putfield 64, 3) := by decide +kernel
theorem dX4_appendSet_17 : decode cX4_appendSet 17 = .ok (.aload 5, 2) := by decide +kernel
theorem dX4_appendSet_19 : decode cX4_appendSet 19 = .ok (.iload_n 2, 1) := by decide +kernel
theorem dX4_appendSet_20 : decode cX4_appendSet 20 = .ok (.putfield 67, 3) := by decide +kernel
theorem dX4_appendSet_23 : decode cX4_appendSet 23 = .ok (.aload 5, 2) := by decide +kernel
theorem dX4_appendSet_25 : decode cX4_appendSet 25 = .ok (.iload_n 3, 1) := by decide +kernel
theorem dX4_appendSet_26 : decode cX4_appendSet 26 = .ok (.putfield 70, 3) := by decide +kernel
theorem dX4_appendSet_29 : decode cX4_appendSet 29 = .ok (.aload 5, 2) := by decide +kernel
theorem dX4_appendSet_31 : decode cX4_appendSet 31 = .ok (.iload 4, 2) := by decide +kernel
theorem dX4_appendSet_33 : decode cX4_appendSet 33 = .ok (.putfield 73, 3) := by decide +kernel
theorem dX4_appendSet_36 : decode cX4_appendSet 36 = .ok (.aload 5, 2) := by decide +kernel
theorem dX4_appendSet_38 : decode cX4_appendSet 38 = .ok (.iconst 0, 1) := by decide +kernel
theorem dX4_appendSet_39 : decode cX4_appendSet 39 = .ok (.putfield 76, 3) := by decide +kernel
theorem dX4_appendSet_42 : decode cX4_appendSet 42 = .ok (.aload 5, 2) := by decide +kernel
theorem dX4_appendSet_44 : decode cX4_appendSet 44 = .ok (.iconst 0, 1) := by decide +kernel
theorem dX4_appendSet_45 : decode cX4_appendSet 45 = .ok (.putfield 79, 3) := by decide +kernel
theorem dX4_appendSet_48 : decode cX4_appendSet 48 = .ok (.aload 5, 2) := by decide +kernel
theorem dX4_appendSet_50 : decode cX4_appendSet 50 = .ok (.bipush (-5), 2) := by decide +kernel
theorem dX4_appendSet_52 : decode cX4_appendSet 52 = .ok (.invokevirtual 82, 3) := by decide +kernel
theorem dX4_appendSet_55 : decode cX4_appendSet 55 = .ok (.aload_n 0, 1) := by decide +kernel
theorem dX4_appendSet_56 : decode cX4_appendSet 56 = .ok (.dup, 1) := by decide +kernel
theorem dX4_appendSet_57 : decode cX4_appendSet 57 = .ok (.getfield 47, 3) := by decide +kernel
theorem dX4_appendSet_60 : decode cX4_appendSet 60 = .ok (.iconst 1, 1) := by decide +kernel
theorem dX4_appendSet_61 : decode cX4_appendSet 61 = .ok (.iadd, 1) := by decide +kernel
theorem dX4_appendSet_62 : decode cX4_appendSet 62 = .ok (.putfield 47, 3) := by decide +kernel
theorem dX4_appendSet_65 : decode cX4_appendSet 65 = .ok (.aload_n 0, 1) := by decide +kernel
theorem dX4_appendSet_66 : decode cX4_appendSet 66 = .ok (.getfield 47, 3) := by decide +kernel
theorem dX4_appendSet_69 : decode cX4_appendSet 69 = .ok (.iconst 1, 1) := by decide +kernel
theorem dX4_appendSet_70 : decode cX4_appendSet 70 = .ok (.isub, 1) := by decide +kernel
theorem dX4_appendSet_71 : decode cX4_appendSet 71 = .ok (.ireturn, 1) := by decide +kernel
theorem dX4_appendSite_0 : decode cX4_appendSite 0 = .ok (.aload_n 0, 1) := by decide +kernel
theorem dX4_appendSite_1 : decode cX4_appendSite 1 = .ok (.getfield 26, 3) := by decide +kernel
theorem dX4_appendSite_4 : decode cX4_appendSite 4 = .ok (.aload_n 0, 1) := by decide +kernel
theorem dX4_appendSite_5 : decode cX4_appendSite 5 = .ok (.getfield 50, 3) := by decide +kernel
theorem dX4_appendSite_8 : decode cX4_appendSite 8 = .ok (.aaload, 1) := by decide +kernel
theorem dX4_appendSite_9 : decode cX4_appendSite 9 = .ok (.iload_n 1, 1) := by decide +kernel
theorem dX4_appendSite_10 : decode cX4_appendSite 10 = .ok (.iload_n 2, 1) := by decide +kernel
theorem dX4_appendSite_11 : decode cX4_appendSite 11 = .ok (.iload_n 3, 1) := by decide +kernel
theorem dX4_appendSite_12 : decode cX4_appendSite 12 = .ok (.iload 4, 2) := by decide +kernel
theorem dX4_appendSite_14 : decode cX4_appendSite 14 = .ok (.invokevirtual 86, 3) := by decide +kernel
theorem dX4_appendSite_17 : decode cX4_appendSite 17 = .ok (.aload_n 0, 1) := by decide +kernel
theorem dX4_appendSite_18 : decode cX4_appendSite 18 = .ok (.dup, 1) := by decide +kernel
theorem dX4_appendSite_19 : decode cX4_appendSite 19 = .ok (.getfield 50, 3) := by decide +kernel
theorem dX4_appendSite_22 : decode cX4_appendSite 22 = .ok (.iconst 1, 1) := by decide +kernel
theorem dX4_appendSite_23 : decode cX4_appendSite 23 = .ok (.iadd, 1) := by decide +kernel
theorem dX4_appendSite_24 : decode cX4_appendSite 24 = .ok (.putfield 50, 3) := by decide +kernel
theorem dX4_appendSite_27 : decode cX4_appendSite 27 = .ok (.aload_n 0, 1) := by decide +kernel
theorem dX4_appendSite_28 : decode cX4_appendSite 28 = .ok (.getfield 50, 3) := by decide +kernel
theorem dX4_appendSite_31 : decode cX4_appendSite 31 = .ok (.iconst 1, 1) := by decide +kernel
theorem dX4_appendSite_32 : decode cX4_appendSite 32 = .ok (.isub, 1) := by decide +kernel
theorem dX4_appendSite_33 : decode cX4_appendSite 33 = .ok (.ireturn, 1) := by decide +kernel
theorem dX4_supplyOf_0 : decode cX4_supplyOf 0 = .ok (.aload_n 0, 1) := by decide +kernel
theorem dX4_supplyOf_1 : decode cX4_supplyOf 1 = .ok (.aload_n 1, 1) := by decide +kernel
theorem dX4_supplyOf_2 : decode cX4_supplyOf 2 = .ok (.getfield 90, 3) := by decide +kernel
theorem dX4_supplyOf_5 : decode cX4_supplyOf 5 = .ok (.invokevirtual 93, 3) := by decide +kernel
theorem dX4_supplyOf_8 : decode cX4_supplyOf 8 = .ok (.ifCond .eq 15, 3) := by decide +kernel
theorem dX4_supplyOf_11 : decode cX4_supplyOf 11 = .ok (.aload_n 0, 1) := by decide +kernel
theorem dX4_supplyOf_12 : decode cX4_supplyOf 12 = .ok (.getfield 20, 3) := by decide +kernel
theorem dX4_supplyOf_15 : decode cX4_supplyOf 15 = .ok (.aload_n 1, 1) := by decide +kernel
theorem dX4_supplyOf_16 : decode cX4_supplyOf 16 = .ok (.getfield 90, 3) := by decide +kernel
theorem dX4_supplyOf_19 : decode cX4_supplyOf 19 = .ok (.aaload, 1) := by decide +kernel
theorem dX4_supplyOf_20 : decode cX4_supplyOf 20 = .ok (.goto 4, 3) := by decide +kernel
theorem dX4_supplyOf_23 : decode cX4_supplyOf 23 = .ok (.aconst_null, 1) := by decide +kernel
theorem dX4_supplyOf_24 : decode cX4_supplyOf 24 = .ok (.areturn, 1) := by decide +kernel
theorem dX4_send_0 : decode cX4_send 0 = .ok (.aload_n 0, 1) := by decide +kernel
theorem dX4_send_1 : decode cX4_send 1 = .ok (.getfield 26, 3) := by decide +kernel
theorem dX4_send_4 : decode cX4_send 4 = .ok (.iload_n 2, 1) := by decide +kernel
theorem dX4_send_5 : decode cX4_send 5 = .ok (.aaload, 1) := by decide +kernel
theorem dX4_send_6 : decode cX4_send 6 = .ok (.iload_n 1, 1) := by decide +kernel
theorem dX4_send_7 : decode cX4_send 7 = .ok (.putfield 90, 3) := by decide +kernel
theorem dX4_send_10 : decode cX4_send 10 = .ok (.aload_n 0, 1) := by decide +kernel
theorem dX4_send_11 : decode cX4_send 11 = .ok (.getfield 20, 3) := by decide +kernel
theorem dX4_send_14 : decode cX4_send 14 = .ok (.iload_n 1, 1) := by decide +kernel
theorem dX4_send_15 : decode cX4_send 15 = .ok (.aaload, 1) := by decide +kernel
theorem dX4_send_16 : decode cX4_send 16 = .ok (.iload_n 2, 1) := by decide +kernel
theorem dX4_send_17 : decode cX4_send 17 = .ok (.invokevirtual 82, 3) := by decide +kernel
theorem dX4_send_20 : decode cX4_send 20 = .ok (.return_, 1) := by decide +kernel
theorem dX4_release_0 : decode cX4_release 0 = .ok (.aload_n 0, 1) := by decide +kernel
theorem dX4_release_1 : decode cX4_release 1 = .ok (.aload_n 0, 1) := by decide +kernel
theorem dX4_release_2 : decode cX4_release 2 = .ok (.getfield 26, 3) := by decide +kernel
theorem dX4_release_5 : decode cX4_release 5 = .ok (.iload_n 1, 1) := by decide +kernel
theorem dX4_release_6 : decode cX4_release 6 = .ok (.aaload, 1) := by decide +kernel
theorem dX4_release_7 : decode cX4_release 7 = .ok (.invokevirtual 97, 3) := by decide +kernel
theorem dX4_release_10 : decode cX4_release 10 = .ok (.astore_n 2, 1) := by decide +kernel
theorem dX4_release_11 : decode cX4_release 11 = .ok (.aload_n 2, 1) := by decide +kernel
theorem dX4_release_12 : decode cX4_release 12 = .ok (.ifnull 9, 3) := by decide +kernel
theorem dX4_release_15 : decode cX4_release 15 = .ok (.aload_n 2, 1) := by decide +kernel
theorem dX4_release_16 : decode cX4_release 16 = .ok (.bipush (-5), 2) := by decide +kernel
theorem dX4_release_18 : decode cX4_release 18 = .ok (.invokevirtual 82, 3) := by decide +kernel
theorem dX4_release_21 : decode cX4_release 21 = .ok (.aload_n 0, 1) := by decide +kernel
theorem dX4_release_22 : decode cX4_release 22 = .ok (.getfield 26, 3) := by decide +kernel
theorem dX4_release_25 : decode cX4_release 25 = .ok (.iload_n 1, 1) := by decide +kernel
theorem dX4_release_26 : decode cX4_release 26 = .ok (.aaload, 1) := by decide +kernel
theorem dX4_release_27 : decode cX4_release 27 = .ok (.bipush (-5), 2) := by decide +kernel
theorem dX4_release_29 : decode cX4_release 29 = .ok (.putfield 90, 3) := by decide +kernel
theorem dX4_release_32 : decode cX4_release 32 = .ok (.return_, 1) := by decide +kernel
theorem dX4_leastInYard_0 : decode cX4_leastInYard 0 = .ok (.bipush (-5), 2) := by decide +kernel
theorem dX4_leastInYard_2 : decode cX4_leastInYard 2 = .ok (.istore_n 2, 1) := by decide +kernel
theorem dX4_leastInYard_3 : decode cX4_leastInYard 3 = .ok (.iconst 0, 1) := by decide +kernel
theorem dX4_leastInYard_4 : decode cX4_leastInYard 4 = .ok (.istore_n 3, 1) := by decide +kernel
theorem dX4_leastInYard_5 : decode cX4_leastInYard 5 = .ok (.iload_n 3, 1) := by decide +kernel
theorem dX4_leastInYard_6 : decode cX4_leastInYard 6 = .ok (.aload_n 0, 1) := by decide +kernel
theorem dX4_leastInYard_7 : decode cX4_leastInYard 7 = .ok (.getfield 47, 3) := by decide +kernel
theorem dX4_leastInYard_10 : decode cX4_leastInYard 10 = .ok (.if_icmp .ge 85, 3) := by decide +kernel
theorem dX4_leastInYard_13 : decode cX4_leastInYard 13 = .ok (.aload_n 0, 1) := by decide +kernel
theorem dX4_leastInYard_14 : decode cX4_leastInYard 14 = .ok (.getfield 20, 3) := by decide +kernel
theorem dX4_leastInYard_17 : decode cX4_leastInYard 17 = .ok (.iload_n 3, 1) := by decide +kernel
theorem dX4_leastInYard_18 : decode cX4_leastInYard 18 = .ok (.aaload, 1) := by decide +kernel
theorem dX4_leastInYard_19 : decode cX4_leastInYard 19 = .ok (.getfield 101, 3) := by decide +kernel
theorem dX4_leastInYard_22 : decode cX4_leastInYard 22 = .ok (.bipush (-5), 2) := by decide +kernel
theorem dX4_leastInYard_24 : decode cX4_leastInYard 24 = .ok (.if_icmp .ne 28, 3) := by decide +kernel
theorem dX4_leastInYard_27 : decode cX4_leastInYard 27 = .ok (.aload_n 0, 1) := by decide +kernel
theorem dX4_leastInYard_28 : decode cX4_leastInYard 28 = .ok (.getfield 20, 3) := by decide +kernel
theorem dX4_leastInYard_31 : decode cX4_leastInYard 31 = .ok (.iload_n 3, 1) := by decide +kernel
theorem dX4_leastInYard_32 : decode cX4_leastInYard 32 = .ok (.aaload, 1) := by decide +kernel
theorem dX4_leastInYard_33 : decode cX4_leastInYard 33 = .ok (.getfield 64, 3) := by decide +kernel
theorem dX4_leastInYard_36 : decode cX4_leastInYard 36 = .ok (.aload_n 0, 1) := by decide +kernel
theorem dX4_leastInYard_37 : decode cX4_leastInYard 37 = .ok (.getfield 26, 3) := by decide +kernel
theorem dX4_leastInYard_40 : decode cX4_leastInYard 40 = .ok (.iload_n 1, 1) := by decide +kernel
theorem dX4_leastInYard_41 : decode cX4_leastInYard 41 = .ok (.aaload, 1) := by decide +kernel
theorem dX4_leastInYard_42 : decode cX4_leastInYard 42 = .ok (.getfield 104, 3) := by decide +kernel
theorem dX4_leastInYard_45 : decode cX4_leastInYard 45 = .ok (.if_icmp .lt 7, 3) := by decide +kernel
theorem dX4_leastInYard_48 : decode cX4_leastInYard 48 = .ok (.iconst 1, 1) := by decide +kernel
theorem dX4_leastInYard_49 : decode cX4_leastInYard 49 = .ok (.goto 4, 3) := by decide +kernel
theorem dX4_leastInYard_52 : decode cX4_leastInYard 52 = .ok (.iconst 0, 1) := by decide +kernel
theorem dX4_leastInYard_53 : decode cX4_leastInYard 53 = .ok (.istore 4, 2) := by decide +kernel
theorem dX4_leastInYard_55 : decode cX4_leastInYard 55 = .ok (.iload 4, 2) := by decide +kernel
theorem dX4_leastInYard_57 : decode cX4_leastInYard 57 = .ok (.ifCond .eq 32, 3) := by decide +kernel
theorem dX4_leastInYard_60 : decode cX4_leastInYard 60 = .ok (.iload_n 2, 1) := by decide +kernel
theorem dX4_leastInYard_61 : decode cX4_leastInYard 61 = .ok (.bipush (-5), 2) := by decide +kernel
theorem dX4_leastInYard_63 : decode cX4_leastInYard 63 = .ok (.if_icmp .eq 24, 3) := by decide +kernel
theorem dX4_leastInYard_66 : decode cX4_leastInYard 66 = .ok (.aload_n 0, 1) := by decide +kernel
theorem dX4_leastInYard_67 : decode cX4_leastInYard 67 = .ok (.getfield 20, 3) := by decide +kernel
theorem dX4_leastInYard_70 : decode cX4_leastInYard 70 = .ok (.iload_n 3, 1) := by decide +kernel
theorem dX4_leastInYard_71 : decode cX4_leastInYard 71 = .ok (.aaload, 1) := by decide +kernel
theorem dX4_leastInYard_72 : decode cX4_leastInYard 72 = .ok (.getfield 64, 3) := by decide +kernel
theorem dX4_leastInYard_75 : decode cX4_leastInYard 75 = .ok (.aload_n 0, 1) := by decide +kernel
theorem dX4_leastInYard_76 : decode cX4_leastInYard 76 = .ok (.getfield 20, 3) := by decide +kernel
theorem dX4_leastInYard_79 : decode cX4_leastInYard 79 = .ok (.iload_n 2, 1) := by decide +kernel
theorem dX4_leastInYard_80 : decode cX4_leastInYard 80 = .ok (.aaload, 1) := by decide +kernel
theorem dX4_leastInYard_81 : decode cX4_leastInYard 81 = .ok (.getfield 64, 3) := by decide +kernel
theorem dX4_leastInYard_84 : decode cX4_leastInYard 84 = .ok (.if_icmp .ge 5, 3) := by decide +kernel
theorem dX4_leastInYard_87 : decode cX4_leastInYard 87 = .ok (.iload_n 3, 1) := by decide +kernel
theorem dX4_leastInYard_88 : decode cX4_leastInYard 88 = .ok (.istore_n 2, 1) := by decide +kernel
theorem dX4_leastInYard_89 : decode cX4_leastInYard 89 = .ok (.iinc 3 1, 3) := by decide +kernel
theorem dX4_leastInYard_92 : decode cX4_leastInYard 92 = .ok (.goto (-87), 3) := by decide +kernel
theorem dX4_leastInYard_95 : decode cX4_leastInYard 95 = .ok (.iload_n 2, 1) := by decide +kernel
theorem dX4_leastInYard_96 : decode cX4_leastInYard 96 = .ok (.ireturn, 1) := by decide +kernel
theorem dX4_giverFor_0 : decode cX4_giverFor 0 = .ok (.bipush (-5), 2) := by decide +kernel
theorem dX4_giverFor_2 : decode cX4_giverFor 2 = .ok (.istore_n 2, 1) := by decide +kernel
theorem dX4_giverFor_3 : decode cX4_giverFor 3 = .ok (.iconst 0, 1) := by decide +kernel
theorem dX4_giverFor_4 : decode cX4_giverFor 4 = .ok (.istore_n 3, 1) := by decide +kernel
theorem dX4_giverFor_5 : decode cX4_giverFor 5 = .ok (.iconst 0, 1) := by decide +kernel
theorem dX4_giverFor_6 : decode cX4_giverFor 6 = .ok (.istore 4, 2) := by decide +kernel
theorem dX4_giverFor_8 : decode cX4_giverFor 8 = .ok (.iload 4, 2) := by decide +kernel
theorem dX4_giverFor_10 : decode cX4_giverFor 10 = .ok (.aload_n 0, 1) := by decide +kernel
theorem dX4_giverFor_11 : decode cX4_giverFor 11 = .ok (.getfield 50, 3) := by decide +kernel
theorem dX4_giverFor_14 : decode cX4_giverFor 14 = .ok (.if_icmp .ge 91, 3) := by decide +kernel
theorem dX4_giverFor_17 : decode cX4_giverFor 17 = .ok (.aload_n 0, 1) := by decide +kernel
theorem dX4_giverFor_18 : decode cX4_giverFor 18 = .ok (.aload_n 0, 1) := by decide +kernel
theorem dX4_giverFor_19 : decode cX4_giverFor 19 = .ok (.getfield 26, 3) := by decide +kernel
theorem dX4_giverFor_22 : decode cX4_giverFor 22 = .ok (.iload 4, 2) := by decide +kernel
theorem dX4_giverFor_24 : decode cX4_giverFor 24 = .ok (.aaload, 1) := by decide +kernel
theorem dX4_giverFor_25 : decode cX4_giverFor 25 = .ok (.invokevirtual 97, 3) := by decide +kernel
theorem dX4_giverFor_28 : decode cX4_giverFor 28 = .ok (.astore 5, 2) := by decide +kernel
theorem dX4_giverFor_30 : decode cX4_giverFor 30 = .ok (.aload 5, 2) := by decide +kernel
theorem dX4_giverFor_32 : decode cX4_giverFor 32 = .ok (.ifnull 35, 3) := by decide +kernel
theorem dX4_giverFor_35 : decode cX4_giverFor 35 = .ok (.aload 5, 2) := by decide +kernel
theorem dX4_giverFor_37 : decode cX4_giverFor 37 = .ok (.getfield 64, 3) := by decide +kernel
theorem dX4_giverFor_40 : decode cX4_giverFor 40 = .ok (.aload_n 0, 1) := by decide +kernel
theorem dX4_giverFor_41 : decode cX4_giverFor 41 = .ok (.getfield 26, 3) := by decide +kernel
theorem dX4_giverFor_44 : decode cX4_giverFor 44 = .ok (.iload_n 1, 1) := by decide +kernel
theorem dX4_giverFor_45 : decode cX4_giverFor 45 = .ok (.aaload, 1) := by decide +kernel
theorem dX4_giverFor_46 : decode cX4_giverFor 46 = .ok (.getfield 104, 3) := by decide +kernel
theorem dX4_giverFor_49 : decode cX4_giverFor 49 = .ok (.if_icmp .lt 18, 3) := by decide +kernel
theorem dX4_giverFor_52 : decode cX4_giverFor 52 = .ok (.aload_n 0, 1) := by decide +kernel
theorem dX4_giverFor_53 : decode cX4_giverFor 53 = .ok (.iload 4, 2) := by decide +kernel
theorem dX4_giverFor_55 : decode cX4_giverFor 55 = .ok (.invokevirtual 107, 3) := by decide +kernel
theorem dX4_giverFor_58 : decode cX4_giverFor 58 = .ok (.bipush (-5), 2) := by decide +kernel
theorem dX4_giverFor_60 : decode cX4_giverFor 60 = .ok (.if_icmp .eq 7, 3) := by decide +kernel
theorem dX4_giverFor_63 : decode cX4_giverFor 63 = .ok (.iconst 1, 1) := by decide +kernel
theorem dX4_giverFor_64 : decode cX4_giverFor 64 = .ok (.goto 4, 3) := by decide +kernel
theorem dX4_giverFor_67 : decode cX4_giverFor 67 = .ok (.iconst 0, 1) := by decide +kernel
theorem dX4_giverFor_68 : decode cX4_giverFor 68 = .ok (.istore 6, 2) := by decide +kernel
theorem dX4_giverFor_70 : decode cX4_giverFor 70 = .ok (.iload 6, 2) := by decide +kernel
theorem dX4_giverFor_72 : decode cX4_giverFor 72 = .ok (.ifCond .eq 27, 3) := by decide +kernel
theorem dX4_giverFor_75 : decode cX4_giverFor 75 = .ok (.iload_n 2, 1) := by decide +kernel
theorem dX4_giverFor_76 : decode cX4_giverFor 76 = .ok (.bipush (-5), 2) := by decide +kernel
theorem dX4_giverFor_78 : decode cX4_giverFor 78 = .ok (.if_icmp .eq 12, 3) := by decide +kernel
theorem dX4_giverFor_81 : decode cX4_giverFor 81 = .ok (.aload 5, 2) := by decide +kernel
theorem dX4_giverFor_83 : decode cX4_giverFor 83 = .ok (.getfield 64, 3) := by decide +kernel
theorem dX4_giverFor_86 : decode cX4_giverFor 86 = .ok (.iload_n 3, 1) := by decide +kernel
theorem dX4_giverFor_87 : decode cX4_giverFor 87 = .ok (.if_icmp .ge 12, 3) := by decide +kernel
theorem dX4_giverFor_90 : decode cX4_giverFor 90 = .ok (.iload 4, 2) := by decide +kernel
theorem dX4_giverFor_92 : decode cX4_giverFor 92 = .ok (.istore_n 2, 1) := by decide +kernel
theorem dX4_giverFor_93 : decode cX4_giverFor 93 = .ok (.aload 5, 2) := by decide +kernel
theorem dX4_giverFor_95 : decode cX4_giverFor 95 = .ok (.getfield 64, 3) := by decide +kernel
theorem dX4_giverFor_98 : decode cX4_giverFor 98 = .ok (.istore_n 3, 1) := by decide +kernel
theorem dX4_giverFor_99 : decode cX4_giverFor 99 = .ok (.iinc 4 1, 3) := by decide +kernel
theorem dX4_giverFor_102 : decode cX4_giverFor 102 = .ok (.goto (-94), 3) := by decide +kernel
theorem dX4_giverFor_105 : decode cX4_giverFor 105 = .ok (.iload_n 2, 1) := by decide +kernel
theorem dX4_giverFor_106 : decode cX4_giverFor 106 = .ok (.ireturn, 1) := by decide +kernel
theorem dX4_exchange_0 : decode cX4_exchange 0 = .ok (.aload_n 0, 1) := by decide +kernel
theorem dX4_exchange_1 : decode cX4_exchange 1 = .ok (.getfield 26, 3) := by decide +kernel
theorem dX4_exchange_4 : decode cX4_exchange 4 = .ok (.iload_n 2, 1) := by decide +kernel
theorem dX4_exchange_5 : decode cX4_exchange 5 = .ok (.aaload, 1) := by decide +kernel
theorem dX4_exchange_6 : decode cX4_exchange 6 = .ok (.getfield 90, 3) := by decide +kernel
theorem dX4_exchange_9 : decode cX4_exchange 9 = .ok (.istore_n 3, 1) := by decide +kernel
theorem dX4_exchange_10 : decode cX4_exchange 10 = .ok (.aload_n 0, 1) := by decide +kernel
theorem dX4_exchange_11 : decode cX4_exchange 11 = .ok (.iload_n 2, 1) := by decide +kernel
theorem dX4_exchange_12 : decode cX4_exchange 12 = .ok (.invokevirtual 107, 3) := by decide +kernel
theorem dX4_exchange_15 : decode cX4_exchange 15 = .ok (.istore 4, 2) := by decide +kernel
theorem dX4_exchange_17 : decode cX4_exchange 17 = .ok (.aload_n 0, 1) := by decide +kernel
theorem dX4_exchange_18 : decode cX4_exchange 18 = .ok (.iload_n 3, 1) := by decide +kernel
theorem dX4_exchange_19 : decode cX4_exchange 19 = .ok (.invokevirtual 93, 3) := by decide +kernel
theorem dX4_exchange_22 : decode cX4_exchange 22 = .ok (.ifCond .eq 25, 3) := by decide +kernel
theorem dX4_exchange_25 : decode cX4_exchange 25 = .ok (.aload_n 0, 1) := by decide +kernel
theorem dX4_exchange_26 : decode cX4_exchange 26 = .ok (.iload 4, 2) := by decide +kernel
theorem dX4_exchange_28 : decode cX4_exchange 28 = .ok (.invokevirtual 93, 3) := by decide +kernel
theorem dX4_exchange_31 : decode cX4_exchange 31 = .ok (.ifCond .eq 16, 3) := by decide +kernel
theorem dX4_exchange_34 : decode cX4_exchange 34 = .ok (.aload_n 0, 1) := by decide +kernel
theorem dX4_exchange_35 : decode cX4_exchange 35 = .ok (.iload 4, 2) := by decide +kernel
theorem dX4_exchange_37 : decode cX4_exchange 37 = .ok (.iload_n 2, 1) := by decide +kernel
theorem dX4_exchange_38 : decode cX4_exchange 38 = .ok (.invokevirtual 111, 3) := by decide +kernel
theorem dX4_exchange_41 : decode cX4_exchange 41 = .ok (.aload_n 0, 1) := by decide +kernel
theorem dX4_exchange_42 : decode cX4_exchange 42 = .ok (.iload_n 3, 1) := by decide +kernel
theorem dX4_exchange_43 : decode cX4_exchange 43 = .ok (.iload_n 1, 1) := by decide +kernel
theorem dX4_exchange_44 : decode cX4_exchange 44 = .ok (.invokevirtual 111, 3) := by decide +kernel
theorem dX4_exchange_47 : decode cX4_exchange 47 = .ok (.return_, 1) := by decide +kernel
theorem dX4_listOpen_0 : decode cX4_listOpen 0 = .ok (.iconst 0, 1) := by decide +kernel
theorem dX4_listOpen_1 : decode cX4_listOpen 1 = .ok (.istore_n 2, 1) := by decide +kernel
theorem dX4_listOpen_2 : decode cX4_listOpen 2 = .ok (.iconst 0, 1) := by decide +kernel
theorem dX4_listOpen_3 : decode cX4_listOpen 3 = .ok (.istore_n 3, 1) := by decide +kernel
theorem dX4_listOpen_4 : decode cX4_listOpen 4 = .ok (.iload_n 3, 1) := by decide +kernel
theorem dX4_listOpen_5 : decode cX4_listOpen 5 = .ok (.aload_n 0, 1) := by decide +kernel
theorem dX4_listOpen_6 : decode cX4_listOpen 6 = .ok (.getfield 50, 3) := by decide +kernel
theorem dX4_listOpen_9 : decode cX4_listOpen 9 = .ok (.if_icmp .ge 36, 3) := by decide +kernel
theorem dX4_listOpen_12 : decode cX4_listOpen 12 = .ok (.aload_n 0, 1) := by decide +kernel
theorem dX4_listOpen_13 : decode cX4_listOpen 13 = .ok (.getfield 26, 3) := by decide +kernel
theorem dX4_listOpen_16 : decode cX4_listOpen 16 = .ok (.iload_n 3, 1) := by decide +kernel
theorem dX4_listOpen_17 : decode cX4_listOpen 17 = .ok (.aaload, 1) := by decide +kernel
theorem dX4_listOpen_18 : decode cX4_listOpen 18 = .ok (.aload_n 0, 1) := by decide +kernel
theorem dX4_listOpen_19 : decode cX4_listOpen 19 = .ok (.getfield 32, 3) := by decide +kernel
theorem dX4_listOpen_22 : decode cX4_listOpen 22 = .ok (.invokevirtual 115, 3) := by decide +kernel
theorem dX4_listOpen_25 : decode cX4_listOpen 25 = .ok (.ifCond .eq 14, 3) := by decide +kernel
theorem dX4_listOpen_28 : decode cX4_listOpen 28 = .ok (.aload_n 0, 1) := by decide +kernel
theorem dX4_listOpen_29 : decode cX4_listOpen 29 = .ok (.aload_n 1, 1) := by decide +kernel
theorem dX4_listOpen_30 : decode cX4_listOpen 30 = .ok (.iload_n 2, 1) := by decide +kernel
theorem dX4_listOpen_31 : decode cX4_listOpen 31 = .ok (.iload_n 3, 1) := by decide +kernel
theorem dX4_listOpen_32 : decode cX4_listOpen 32 = .ok (.iconst 0, 1) := by decide +kernel
theorem dX4_listOpen_33 : decode cX4_listOpen 33 = .ok (.invokevirtual 118, 3) := by decide +kernel
theorem dX4_listOpen_36 : decode cX4_listOpen 36 = .ok (.iinc 2 1, 3) := by decide +kernel
theorem dX4_listOpen_39 : decode cX4_listOpen 39 = .ok (.iinc 3 1, 3) := by decide +kernel
theorem dX4_listOpen_42 : decode cX4_listOpen 42 = .ok (.goto (-38), 3) := by decide +kernel
theorem dX4_listOpen_45 : decode cX4_listOpen 45 = .ok (.iload_n 2, 1) := by decide +kernel
theorem dX4_listOpen_46 : decode cX4_listOpen 46 = .ok (.ireturn, 1) := by decide +kernel
theorem dX4_listSupplied_0 : decode cX4_listSupplied 0 = .ok (.iconst 0, 1) := by decide +kernel
theorem dX4_listSupplied_1 : decode cX4_listSupplied 1 = .ok (.istore_n 2, 1) := by decide +kernel
theorem dX4_listSupplied_2 : decode cX4_listSupplied 2 = .ok (.iconst 0, 1) := by decide +kernel
theorem dX4_listSupplied_3 : decode cX4_listSupplied 3 = .ok (.istore_n 3, 1) := by decide +kernel
theorem dX4_listSupplied_4 : decode cX4_listSupplied 4 = .ok (.iload_n 3, 1) := by decide +kernel
theorem dX4_listSupplied_5 : decode cX4_listSupplied 5 = .ok (.aload_n 0, 1) := by decide +kernel
theorem dX4_listSupplied_6 : decode cX4_listSupplied 6 = .ok (.getfield 50, 3) := by decide +kernel
theorem dX4_listSupplied_9 : decode cX4_listSupplied 9 = .ok (.if_icmp .ge 34, 3) := by decide +kernel
theorem dX4_listSupplied_12 : decode cX4_listSupplied 12 = .ok (.aload_n 0, 1) := by decide +kernel
theorem dX4_listSupplied_13 : decode cX4_listSupplied 13 = .ok (.getfield 26, 3) := by decide +kernel
theorem dX4_listSupplied_16 : decode cX4_listSupplied 16 = .ok (.iload_n 3, 1) := by decide +kernel
theorem dX4_listSupplied_17 : decode cX4_listSupplied 17 = .ok (.aaload, 1) := by decide +kernel
theorem dX4_listSupplied_18 : decode cX4_listSupplied 18 = .ok (.getfield 90, 3) := by decide +kernel
theorem dX4_listSupplied_21 : decode cX4_listSupplied 21 = .ok (.bipush (-5), 2) := by decide +kernel
theorem dX4_listSupplied_23 : decode cX4_listSupplied 23 = .ok (.if_icmp .eq 14, 3) := by decide +kernel
theorem dX4_listSupplied_26 : decode cX4_listSupplied 26 = .ok (.aload_n 0, 1) := by decide +kernel
theorem dX4_listSupplied_27 : decode cX4_listSupplied 27 = .ok (.aload_n 1, 1) := by decide +kernel
theorem dX4_listSupplied_28 : decode cX4_listSupplied 28 = .ok (.iload_n 2, 1) := by decide +kernel
theorem dX4_listSupplied_29 : decode cX4_listSupplied 29 = .ok (.iload_n 3, 1) := by decide +kernel
theorem dX4_listSupplied_30 : decode cX4_listSupplied 30 = .ok (.iconst 1, 1) := by decide +kernel
theorem dX4_listSupplied_31 : decode cX4_listSupplied 31 = .ok (.invokevirtual 118, 3) := by decide +kernel
theorem dX4_listSupplied_34 : decode cX4_listSupplied 34 = .ok (.iinc 2 1, 3) := by decide +kernel
theorem dX4_listSupplied_37 : decode cX4_listSupplied 37 = .ok (.iinc 3 1, 3) := by decide +kernel
theorem dX4_listSupplied_40 : decode cX4_listSupplied 40 = .ok (.goto (-36), 3) := by decide +kernel
theorem dX4_listSupplied_43 : decode cX4_listSupplied 43 = .ok (.iload_n 2, 1) := by decide +kernel
theorem dX4_listSupplied_44 : decode cX4_listSupplied 44 = .ok (.ireturn, 1) := by decide +kernel
theorem dX4_insert_0 : decode cX4_insert 0 = .ok (.iload_n 2, 1) := by decide +kernel
theorem dX4_insert_1 : decode cX4_insert 1 = .ok (.istore 5, 2) := by decide +kernel
theorem dX4_insert_3 : decode cX4_insert 3 = .ok (.iload 5, 2) := by decide +kernel
theorem dX4_insert_5 : decode cX4_insert 5 = .ok (.ifCond .le 35, 3) := by decide +kernel
theorem dX4_insert_8 : decode cX4_insert 8 = .ok (.aload_n 0, 1) := by decide +kernel
theorem dX4_insert_9 : decode cX4_insert 9 = .ok (.iload_n 3, 1) := by decide +kernel
theorem dX4_insert_10 : decode cX4_insert 10 = .ok (.aload_n 1, 1) := by decide +kernel
theorem dX4_insert_11 : decode cX4_insert 11 = .ok (.iload 5, 2) := by decide +kernel
theorem dX4_insert_13 : decode cX4_insert 13 = .ok (.iconst 1, 1) := by decide +kernel
theorem dX4_insert_14 : decode cX4_insert 14 = .ok (.isub, 1) := by decide +kernel
theorem dX4_insert_15 : decode cX4_insert 15 = .ok (.iaload, 1) := by decide +kernel
theorem dX4_insert_16 : decode cX4_insert 16 = .ok (.iload 4, 2) := by decide +kernel
theorem dX4_insert_18 : decode cX4_insert 18 = .ok (.invokevirtual 122, 3) := by decide +kernel
theorem dX4_insert_21 : decode cX4_insert 21 = .ok (.ifCond .eq 19, 3) := by decide +kernel
theorem dX4_insert_24 : decode cX4_insert 24 = .ok (.aload_n 1, 1) := by decide +kernel
theorem dX4_insert_25 : decode cX4_insert 25 = .ok (.iload 5, 2) := by decide +kernel
theorem dX4_insert_27 : decode cX4_insert 27 = .ok (.aload_n 1, 1) := by decide +kernel
theorem dX4_insert_28 : decode cX4_insert 28 = .ok (.iload 5, 2) := by decide +kernel
theorem dX4_insert_30 : decode cX4_insert 30 = .ok (.iconst 1, 1) := by decide +kernel
theorem dX4_insert_31 : decode cX4_insert 31 = .ok (.isub, 1) := by decide +kernel
theorem dX4_insert_32 : decode cX4_insert 32 = .ok (.iaload, 1) := by decide +kernel
theorem dX4_insert_33 : decode cX4_insert 33 = .ok (.iastore, 1) := by decide +kernel
theorem dX4_insert_34 : decode cX4_insert 34 = .ok (.iinc 5 (-1), 3) := by decide +kernel
theorem dX4_insert_37 : decode cX4_insert 37 = .ok (.goto (-34), 3) := by decide +kernel
theorem dX4_insert_40 : decode cX4_insert 40 = .ok (.aload_n 1, 1) := by decide +kernel
theorem dX4_insert_41 : decode cX4_insert 41 = .ok (.iload 5, 2) := by decide +kernel
theorem dX4_insert_43 : decode cX4_insert 43 = .ok (.iload_n 3, 1) := by decide +kernel
theorem dX4_insert_44 : decode cX4_insert 44 = .ok (.iastore, 1) := by decide +kernel
theorem dX4_insert_45 : decode cX4_insert 45 = .ok (.return_, 1) := by decide +kernel
theorem dX4_isAhead_0 : decode cX4_isAhead 0 = .ok (.iload_n 3, 1) := by decide +kernel
theorem dX4_isAhead_1 : decode cX4_isAhead 1 = .ok (.ifCond .eq 17, 3) := by decide +kernel
theorem dX4_isAhead_4 : decode cX4_isAhead 4 = .ok (.aload_n 0, 1) := by decide +kernel
theorem dX4_isAhead_5 : decode cX4_isAhead 5 = .ok (.iload_n 1, 1) := by decide +kernel
theorem dX4_isAhead_6 : decode cX4_isAhead 6 = .ok (.invokevirtual 126, 3) := by decide +kernel
theorem dX4_isAhead_9 : decode cX4_isAhead 9 = .ok (.aload_n 0, 1) := by decide +kernel
theorem dX4_isAhead_10 : decode cX4_isAhead 10 = .ok (.iload_n 2, 1) := by decide +kernel
theorem dX4_isAhead_11 : decode cX4_isAhead 11 = .ok (.invokevirtual 126, 3) := by decide +kernel
theorem dX4_isAhead_14 : decode cX4_isAhead 14 = .ok (.isub, 1) := by decide +kernel
theorem dX4_isAhead_15 : decode cX4_isAhead 15 = .ok (.goto 4, 3) := by decide +kernel
theorem dX4_isAhead_18 : decode cX4_isAhead 18 = .ok (.iconst 0, 1) := by decide +kernel
theorem dX4_isAhead_19 : decode cX4_isAhead 19 = .ok (.istore 4, 2) := by decide +kernel
theorem dX4_isAhead_21 : decode cX4_isAhead 21 = .ok (.iload 4, 2) := by decide +kernel
theorem dX4_isAhead_23 : decode cX4_isAhead 23 = .ok (.ifCond .lt 26, 3) := by decide +kernel
theorem dX4_isAhead_26 : decode cX4_isAhead 26 = .ok (.iload 4, 2) := by decide +kernel
theorem dX4_isAhead_28 : decode cX4_isAhead 28 = .ok (.ifCond .ne 25, 3) := by decide +kernel
theorem dX4_isAhead_31 : decode cX4_isAhead 31 = .ok (.aload_n 0, 1) := by decide +kernel
theorem dX4_isAhead_32 : decode cX4_isAhead 32 = .ok (.getfield 26, 3) := by decide +kernel
theorem dX4_isAhead_35 : decode cX4_isAhead 35 = .ok (.iload_n 1, 1) := by decide +kernel
theorem dX4_isAhead_36 : decode cX4_isAhead 36 = .ok (.aaload, 1) := by decide +kernel
theorem dX4_isAhead_37 : decode cX4_isAhead 37 = .ok (.aload_n 0, 1) := by decide +kernel
theorem dX4_isAhead_38 : decode cX4_isAhead 38 = .ok (.getfield 26, 3) := by decide +kernel
theorem dX4_isAhead_41 : decode cX4_isAhead 41 = .ok (.iload_n 2, 1) := by decide +kernel
theorem dX4_isAhead_42 : decode cX4_isAhead 42 = .ok (.aaload, 1) := by decide +kernel
theorem dX4_isAhead_43 : decode cX4_isAhead 43 = .ok (.invokevirtual 129, 3) := by decide +kernel
theorem dX4_isAhead_46 : decode cX4_isAhead 46 = .ok (.ifCond .eq 7, 3) := by decide +kernel
theorem dX4_isAhead_49 : decode cX4_isAhead 49 = .ok (.iconst 1, 1) := by decide +kernel
theorem dX4_isAhead_50 : decode cX4_isAhead 50 = .ok (.goto 4, 3) := by decide +kernel
theorem dX4_isAhead_53 : decode cX4_isAhead 53 = .ok (.iconst 0, 1) := by decide +kernel
theorem dX4_isAhead_54 : decode cX4_isAhead 54 = .ok (.ireturn, 1) := by decide +kernel
theorem dX4_hoursLeftAt_0 : decode cX4_hoursLeftAt 0 = .ok (.aload_n 0, 1) := by decide +kernel
theorem dX4_hoursLeftAt_1 : decode cX4_hoursLeftAt 1 = .ok (.aload_n 0, 1) := by decide +kernel
theorem dX4_hoursLeftAt_2 : decode cX4_hoursLeftAt 2 = .ok (.getfield 26, 3) := by decide +kernel
theorem dX4_hoursLeftAt_5 : decode cX4_hoursLeftAt 5 = .ok (.iload_n 1, 1) := by decide +kernel
theorem dX4_hoursLeftAt_6 : decode cX4_hoursLeftAt 6 = .ok (.aaload, 1) := by decide +kernel
theorem dX4_hoursLeftAt_7 : decode cX4_hoursLeftAt 7 = .ok (.invokevirtual 97, 3) := by decide +kernel
theorem dX4_hoursLeftAt_10 : decode cX4_hoursLeftAt 10 = .ok (.astore_n 2, 1) := by decide +kernel
theorem dX4_hoursLeftAt_11 : decode cX4_hoursLeftAt 11 = .ok (.aload_n 2, 1) := by decide +kernel
theorem dX4_hoursLeftAt_12 : decode cX4_hoursLeftAt 12 = .ok (.ifnonnull 7, 3) := by decide +kernel
theorem dX4_hoursLeftAt_15 : decode cX4_hoursLeftAt 15 = .ok (.iconst 0, 1) := by decide +kernel
theorem dX4_hoursLeftAt_16 : decode cX4_hoursLeftAt 16 = .ok (.goto 7, 3) := by decide +kernel
theorem dX4_hoursLeftAt_19 : decode cX4_hoursLeftAt 19 = .ok (.aload_n 2, 1) := by decide +kernel
theorem dX4_hoursLeftAt_20 : decode cX4_hoursLeftAt 20 = .ok (.invokevirtual 133, 3) := by decide +kernel
theorem dX4_hoursLeftAt_23 : decode cX4_hoursLeftAt 23 = .ok (.ireturn, 1) := by decide +kernel
theorem dX4_causeFor_0 : decode cX4_causeFor 0 = .ok (.aload_n 0, 1) := by decide +kernel
theorem dX4_causeFor_1 : decode cX4_causeFor 1 = .ok (.aload_n 1, 1) := by decide +kernel
theorem dX4_causeFor_2 : decode cX4_causeFor 2 = .ok (.invokevirtual 97, 3) := by decide +kernel
theorem dX4_causeFor_5 : decode cX4_causeFor 5 = .ok (.astore_n 2, 1) := by decide +kernel
theorem dX4_causeFor_6 : decode cX4_causeFor 6 = .ok (.aload_n 2, 1) := by decide +kernel
theorem dX4_causeFor_7 : decode cX4_causeFor 7 = .ok (.ifnonnull 7, 3) := by decide +kernel
theorem dX4_causeFor_10 : decode cX4_causeFor 10 = .ok (.iconst 1, 1) := by decide +kernel
theorem dX4_causeFor_11 : decode cX4_causeFor 11 = .ok (.goto 11, 3) := by decide +kernel
theorem dX4_causeFor_14 : decode cX4_causeFor 14 = .ok (.aload_n 2, 1) := by decide +kernel
theorem dX4_causeFor_15 : decode cX4_causeFor 15 = .ok (.aload_n 0, 1) := by decide +kernel
theorem dX4_causeFor_16 : decode cX4_causeFor 16 = .ok (.getfield 9, 3) := by decide +kernel
theorem dX4_causeFor_19 : decode cX4_causeFor 19 = .ok (.invokevirtual 137, 3) := by decide +kernel
theorem dX4_causeFor_22 : decode cX4_causeFor 22 = .ok (.ireturn, 1) := by decide +kernel
theorem dX4_passHours_0 : decode cX4_passHours 0 = .ok (.iconst 0, 1) := by decide +kernel
theorem dX4_passHours_1 : decode cX4_passHours 1 = .ok (.istore_n 2, 1) := by decide +kernel
theorem dX4_passHours_2 : decode cX4_passHours 2 = .ok (.iload_n 2, 1) := by decide +kernel
theorem dX4_passHours_3 : decode cX4_passHours 3 = .ok (.iload_n 1, 1) := by decide +kernel
theorem dX4_passHours_4 : decode cX4_passHours 4 = .ok (.if_icmp .ge 13, 3) := by decide +kernel
theorem dX4_passHours_7 : decode cX4_passHours 7 = .ok (.aload_n 0, 1) := by decide +kernel
theorem dX4_passHours_8 : decode cX4_passHours 8 = .ok (.invokevirtual 140, 3) := by decide +kernel
theorem dX4_passHours_11 : decode cX4_passHours 11 = .ok (.iinc 2 1, 3) := by decide +kernel
theorem dX4_passHours_14 : decode cX4_passHours 14 = .ok (.goto (-12), 3) := by decide +kernel
theorem dX4_passHours_17 : decode cX4_passHours 17 = .ok (.return_, 1) := by decide +kernel
theorem dX4_passHour_0 : decode cX4_passHour 0 = .ok (.iconst 0, 1) := by decide +kernel
theorem dX4_passHour_1 : decode cX4_passHour 1 = .ok (.istore_n 1, 1) := by decide +kernel
theorem dX4_passHour_2 : decode cX4_passHour 2 = .ok (.iload_n 1, 1) := by decide +kernel
theorem dX4_passHour_3 : decode cX4_passHour 3 = .ok (.aload_n 0, 1) := by decide +kernel
theorem dX4_passHour_4 : decode cX4_passHour 4 = .ok (.getfield 50, 3) := by decide +kernel
theorem dX4_passHour_7 : decode cX4_passHour 7 = .ok (.if_icmp .ge 35, 3) := by decide +kernel
theorem dX4_passHour_10 : decode cX4_passHour 10 = .ok (.aload_n 0, 1) := by decide +kernel
theorem dX4_passHour_11 : decode cX4_passHour 11 = .ok (.getfield 26, 3) := by decide +kernel
theorem dX4_passHour_14 : decode cX4_passHour 14 = .ok (.iload_n 1, 1) := by decide +kernel
theorem dX4_passHour_15 : decode cX4_passHour 15 = .ok (.aaload, 1) := by decide +kernel
theorem dX4_passHour_16 : decode cX4_passHour 16 = .ok (.aload_n 0, 1) := by decide +kernel
theorem dX4_passHour_17 : decode cX4_passHour 17 = .ok (.getfield 32, 3) := by decide +kernel
theorem dX4_passHour_20 : decode cX4_passHour 20 = .ok (.invokevirtual 115, 3) := by decide +kernel
theorem dX4_passHour_23 : decode cX4_passHour 23 = .ok (.ifCond .eq 13, 3) := by decide +kernel
theorem dX4_passHour_26 : decode cX4_passHour 26 = .ok (.aload_n 0, 1) := by decide +kernel
theorem dX4_passHour_27 : decode cX4_passHour 27 = .ok (.aload_n 0, 1) := by decide +kernel
theorem dX4_passHour_28 : decode cX4_passHour 28 = .ok (.getfield 26, 3) := by decide +kernel
theorem dX4_passHour_31 : decode cX4_passHour 31 = .ok (.iload_n 1, 1) := by decide +kernel
theorem dX4_passHour_32 : decode cX4_passHour 32 = .ok (.aaload, 1) := by decide +kernel
theorem dX4_passHour_33 : decode cX4_passHour 33 = .ok (.invokevirtual 143, 3) := by decide +kernel
theorem dX4_passHour_36 : decode cX4_passHour 36 = .ok (.iinc 1 1, 3) := by decide +kernel
theorem dX4_passHour_39 : decode cX4_passHour 39 = .ok (.goto (-37), 3) := by decide +kernel
theorem dX4_passHour_42 : decode cX4_passHour 42 = .ok (.aload_n 0, 1) := by decide +kernel
theorem dX4_passHour_43 : decode cX4_passHour 43 = .ok (.dup, 1) := by decide +kernel
theorem dX4_passHour_44 : decode cX4_passHour 44 = .ok (.getfield 32, 3) := by decide +kernel
theorem dX4_passHour_47 : decode cX4_passHour 47 = .ok (.iconst 1, 1) := by decide +kernel
theorem dX4_passHour_48 : decode cX4_passHour 48 = .ok (.iadd, 1) := by decide +kernel
theorem dX4_passHour_49 : decode cX4_passHour 49 = .ok (.putfield 32, 3) := by decide +kernel
theorem dX4_passHour_52 : decode cX4_passHour 52 = .ok (.iconst 0, 1) := by decide +kernel
theorem dX4_passHour_53 : decode cX4_passHour 53 = .ok (.istore_n 1, 1) := by decide +kernel
theorem dX4_passHour_54 : decode cX4_passHour 54 = .ok (.iload_n 1, 1) := by decide +kernel
theorem dX4_passHour_55 : decode cX4_passHour 55 = .ok (.aload_n 0, 1) := by decide +kernel
theorem dX4_passHour_56 : decode cX4_passHour 56 = .ok (.getfield 50, 3) := by decide +kernel
theorem dX4_passHour_59 : decode cX4_passHour 59 = .ok (.if_icmp .ge 30, 3) := by decide +kernel
theorem dX4_passHour_62 : decode cX4_passHour 62 = .ok (.aload_n 0, 1) := by decide +kernel
theorem dX4_passHour_63 : decode cX4_passHour 63 = .ok (.getfield 26, 3) := by decide +kernel
theorem dX4_passHour_66 : decode cX4_passHour 66 = .ok (.iload_n 1, 1) := by decide +kernel
theorem dX4_passHour_67 : decode cX4_passHour 67 = .ok (.aaload, 1) := by decide +kernel
theorem dX4_passHour_68 : decode cX4_passHour 68 = .ok (.getfield 146, 3) := by decide +kernel
theorem dX4_passHour_71 : decode cX4_passHour 71 = .ok (.aload_n 0, 1) := by decide +kernel
theorem dX4_passHour_72 : decode cX4_passHour 72 = .ok (.getfield 32, 3) := by decide +kernel
theorem dX4_passHour_75 : decode cX4_passHour 75 = .ok (.if_icmp .ne 8, 3) := by decide +kernel
theorem dX4_passHour_78 : decode cX4_passHour 78 = .ok (.aload_n 0, 1) := by decide +kernel
theorem dX4_passHour_79 : decode cX4_passHour 79 = .ok (.iload_n 1, 1) := by decide +kernel
theorem dX4_passHour_80 : decode cX4_passHour 80 = .ok (.invokevirtual 149, 3) := by decide +kernel
theorem dX4_passHour_83 : decode cX4_passHour 83 = .ok (.iinc 1 1, 3) := by decide +kernel
theorem dX4_passHour_86 : decode cX4_passHour 86 = .ok (.goto (-32), 3) := by decide +kernel
theorem dX4_passHour_89 : decode cX4_passHour 89 = .ok (.return_, 1) := by decide +kernel
theorem dX4_lightOrDarken_0 : decode cX4_lightOrDarken 0 = .ok (.aload_n 0, 1) := by decide +kernel
theorem dX4_lightOrDarken_1 : decode cX4_lightOrDarken 1 = .ok (.aload_n 1, 1) := by decide +kernel
theorem dX4_lightOrDarken_2 : decode cX4_lightOrDarken 2 = .ok (.invokevirtual 152, 3) := by decide +kernel
theorem dX4_lightOrDarken_5 : decode cX4_lightOrDarken 5 = .ok (.istore_n 2, 1) := by decide +kernel
theorem dX4_lightOrDarken_6 : decode cX4_lightOrDarken 6 = .ok (.aload_n 0, 1) := by decide +kernel
theorem dX4_lightOrDarken_7 : decode cX4_lightOrDarken 7 = .ok (.aload_n 1, 1) := by decide +kernel
theorem dX4_lightOrDarken_8 : decode cX4_lightOrDarken 8 = .ok (.invokevirtual 97, 3) := by decide +kernel
theorem dX4_lightOrDarken_11 : decode cX4_lightOrDarken 11 = .ok (.astore_n 3, 1) := by decide +kernel
theorem dX4_lightOrDarken_12 : decode cX4_lightOrDarken 12 = .ok (.aload_n 3, 1) := by decide +kernel
theorem dX4_lightOrDarken_13 : decode cX4_lightOrDarken 13 = .ok (.ifnonnull 11, 3) := by decide +kernel
theorem dX4_lightOrDarken_16 : decode cX4_lightOrDarken 16 = .ok (.aload_n 1, 1) := by decide +kernel
theorem dX4_lightOrDarken_17 : decode cX4_lightOrDarken 17 = .ok (.iload_n 2, 1) := by decide +kernel
theorem dX4_lightOrDarken_18 : decode cX4_lightOrDarken 18 = .ok (.invokevirtual 156, 3) := by decide +kernel
theorem dX4_lightOrDarken_21 : decode cX4_lightOrDarken 21 = .ok (.goto 74, 3) := by decide +kernel
theorem dX4_lightOrDarken_24 : decode cX4_lightOrDarken 24 = .ok (.iload_n 2, 1) := by decide +kernel
theorem dX4_lightOrDarken_25 : decode cX4_lightOrDarken 25 = .ok (.ifCond .ne 36, 3) := by decide +kernel
theorem dX4_lightOrDarken_28 : decode cX4_lightOrDarken 28 = .ok (.aload_n 3, 1) := by decide +kernel
theorem dX4_lightOrDarken_29 : decode cX4_lightOrDarken 29 = .ok (.invokevirtual 159, 3) := by decide +kernel
theorem dX4_lightOrDarken_32 : decode cX4_lightOrDarken 32 = .ok (.aload_n 0, 1) := by decide +kernel
theorem dX4_lightOrDarken_33 : decode cX4_lightOrDarken 33 = .ok (.dup, 1) := by decide +kernel
theorem dX4_lightOrDarken_34 : decode cX4_lightOrDarken 34 = .ok (.getfield 38, 3) := by decide +kernel
theorem dX4_lightOrDarken_37 : decode cX4_lightOrDarken 37 = .ok (.aload_n 3, 1) := by decide +kernel
theorem dX4_lightOrDarken_38 : decode cX4_lightOrDarken 38 = .ok (.getfield 70, 3) := by decide +kernel
theorem dX4_lightOrDarken_41 : decode cX4_lightOrDarken 41 = .ok (.iadd, 1) := by decide +kernel
theorem dX4_lightOrDarken_42 : decode cX4_lightOrDarken 42 = .ok (.putfield 38, 3) := by decide +kernel
theorem dX4_lightOrDarken_45 : decode cX4_lightOrDarken 45 = .ok (.aload_n 1, 1) := by decide +kernel
theorem dX4_lightOrDarken_46 : decode cX4_lightOrDarken 46 = .ok (.aload_n 3, 1) := by decide +kernel
theorem dX4_lightOrDarken_47 : decode cX4_lightOrDarken 47 = .ok (.getfield 64, 3) := by decide +kernel
theorem dX4_lightOrDarken_50 : decode cX4_lightOrDarken 50 = .ok (.aload_n 0, 1) := by decide +kernel
theorem dX4_lightOrDarken_51 : decode cX4_lightOrDarken 51 = .ok (.getfield 15, 3) := by decide +kernel
theorem dX4_lightOrDarken_54 : decode cX4_lightOrDarken 54 = .ok (.imul, 1) := by decide +kernel
theorem dX4_lightOrDarken_55 : decode cX4_lightOrDarken 55 = .ok (.invokevirtual 162, 3) := by decide +kernel
theorem dX4_lightOrDarken_58 : decode cX4_lightOrDarken 58 = .ok (.goto 37, 3) := by decide +kernel
theorem dX4_lightOrDarken_61 : decode cX4_lightOrDarken 61 = .ok (.aload_n 1, 1) := by decide +kernel
theorem dX4_lightOrDarken_62 : decode cX4_lightOrDarken 62 = .ok (.iload_n 2, 1) := by decide +kernel
theorem dX4_lightOrDarken_63 : decode cX4_lightOrDarken 63 = .ok (.invokevirtual 156, 3) := by decide +kernel
theorem dX4_lightOrDarken_66 : decode cX4_lightOrDarken 66 = .ok (.aload_n 0, 1) := by decide +kernel
theorem dX4_lightOrDarken_67 : decode cX4_lightOrDarken 67 = .ok (.dup, 1) := by decide +kernel
theorem dX4_lightOrDarken_68 : decode cX4_lightOrDarken 68 = .ok (.getfield 44, 3) := by decide +kernel
theorem dX4_lightOrDarken_71 : decode cX4_lightOrDarken 71 = .ok (.iconst 1, 1) := by decide +kernel
theorem dX4_lightOrDarken_72 : decode cX4_lightOrDarken 72 = .ok (.iadd, 1) := by decide +kernel
theorem dX4_lightOrDarken_73 : decode cX4_lightOrDarken 73 = .ok (.putfield 44, 3) := by decide +kernel
theorem dX4_lightOrDarken_76 : decode cX4_lightOrDarken 76 = .ok (.aload_n 3, 1) := by decide +kernel
theorem dX4_lightOrDarken_77 : decode cX4_lightOrDarken 77 = .ok (.dup, 1) := by decide +kernel
theorem dX4_lightOrDarken_78 : decode cX4_lightOrDarken 78 = .ok (.getfield 165, 3) := by decide +kernel
theorem dX4_lightOrDarken_81 : decode cX4_lightOrDarken 81 = .ok (.iload_n 2, 1) := by decide +kernel
theorem dX4_lightOrDarken_82 : decode cX4_lightOrDarken 82 = .ok (.iconst 3, 1) := by decide +kernel
theorem dX4_lightOrDarken_83 : decode cX4_lightOrDarken 83 = .ok (.if_icmp .ne 7, 3) := by decide +kernel
theorem dX4_lightOrDarken_86 : decode cX4_lightOrDarken 86 = .ok (.iconst 1, 1) := by decide +kernel
theorem dX4_lightOrDarken_87 : decode cX4_lightOrDarken 87 = .ok (.goto 4, 3) := by decide +kernel
theorem dX4_lightOrDarken_90 : decode cX4_lightOrDarken 90 = .ok (.iconst 0, 1) := by decide +kernel
theorem dX4_lightOrDarken_91 : decode cX4_lightOrDarken 91 = .ok (.iadd, 1) := by decide +kernel
theorem dX4_lightOrDarken_92 : decode cX4_lightOrDarken 92 = .ok (.putfield 165, 3) := by decide +kernel
theorem dX4_lightOrDarken_95 : decode cX4_lightOrDarken 95 = .ok (.return_, 1) := by decide +kernel
theorem dX4_darkestSince_0 : decode cX4_darkestSince 0 = .ok (.bipush (-5), 2) := by decide +kernel
theorem dX4_darkestSince_2 : decode cX4_darkestSince 2 = .ok (.istore_n 2, 1) := by decide +kernel
theorem dX4_darkestSince_3 : decode cX4_darkestSince 3 = .ok (.iconst 0, 1) := by decide +kernel
theorem dX4_darkestSince_4 : decode cX4_darkestSince 4 = .ok (.istore_n 3, 1) := by decide +kernel
theorem dX4_darkestSince_5 : decode cX4_darkestSince 5 = .ok (.iconst 0, 1) := by decide +kernel
theorem dX4_darkestSince_6 : decode cX4_darkestSince 6 = .ok (.istore 4, 2) := by decide +kernel
theorem dX4_darkestSince_8 : decode cX4_darkestSince 8 = .ok (.iload 4, 2) := by decide +kernel
theorem dX4_darkestSince_10 : decode cX4_darkestSince 10 = .ok (.aload_n 1, 1) := by decide +kernel
theorem dX4_darkestSince_11 : decode cX4_darkestSince 11 = .ok (.getfield 50, 3) := by decide +kernel
theorem dX4_darkestSince_14 : decode cX4_darkestSince 14 = .ok (.if_icmp .ge 44, 3) := by decide +kernel
theorem dX4_darkestSince_17 : decode cX4_darkestSince 17 = .ok (.aload_n 0, 1) := by decide +kernel
theorem dX4_darkestSince_18 : decode cX4_darkestSince 18 = .ok (.getfield 26, 3) := by decide +kernel
theorem dX4_darkestSince_21 : decode cX4_darkestSince 21 = .ok (.iload 4, 2) := by decide +kernel
theorem dX4_darkestSince_23 : decode cX4_darkestSince 23 = .ok (.aaload, 1) := by decide +kernel
theorem dX4_darkestSince_24 : decode cX4_darkestSince 24 = .ok (.getfield 168, 3) := by decide +kernel
theorem dX4_darkestSince_27 : decode cX4_darkestSince 27 = .ok (.aload_n 1, 1) := by decide +kernel
theorem dX4_darkestSince_28 : decode cX4_darkestSince 28 = .ok (.getfield 26, 3) := by decide +kernel
theorem dX4_darkestSince_31 : decode cX4_darkestSince 31 = .ok (.iload 4, 2) := by decide +kernel
theorem dX4_darkestSince_33 : decode cX4_darkestSince 33 = .ok (.aaload, 1) := by decide +kernel
theorem dX4_darkestSince_34 : decode cX4_darkestSince 34 = .ok (.getfield 168, 3) := by decide +kernel
theorem dX4_darkestSince_37 : decode cX4_darkestSince 37 = .ok (.isub, 1) := by decide +kernel
theorem dX4_darkestSince_38 : decode cX4_darkestSince 38 = .ok (.istore 5, 2) := by decide +kernel
theorem dX4_darkestSince_40 : decode cX4_darkestSince 40 = .ok (.iload 5, 2) := by decide +kernel
theorem dX4_darkestSince_42 : decode cX4_darkestSince 42 = .ok (.iload_n 3, 1) := by decide +kernel
theorem dX4_darkestSince_43 : decode cX4_darkestSince 43 = .ok (.if_icmp .le 9, 3) := by decide +kernel
theorem dX4_darkestSince_46 : decode cX4_darkestSince 46 = .ok (.iload 4, 2) := by decide +kernel
theorem dX4_darkestSince_48 : decode cX4_darkestSince 48 = .ok (.istore_n 2, 1) := by decide +kernel
theorem dX4_darkestSince_49 : decode cX4_darkestSince 49 = .ok (.iload 5, 2) := by decide +kernel
theorem dX4_darkestSince_51 : decode cX4_darkestSince 51 = .ok (.istore_n 3, 1) := by decide +kernel
theorem dX4_darkestSince_52 : decode cX4_darkestSince 52 = .ok (.iinc 4 1, 3) := by decide +kernel
theorem dX4_darkestSince_55 : decode cX4_darkestSince 55 = .ok (.goto (-47), 3) := by decide +kernel
theorem dX4_darkestSince_58 : decode cX4_darkestSince 58 = .ok (.iload_n 2, 1) := by decide +kernel
theorem dX4_darkestSince_59 : decode cX4_darkestSince 59 = .ok (.ireturn, 1) := by decide +kernel
theorem dX4_yardSize_0 : decode cX4_yardSize 0 = .ok (.iconst 0, 1) := by decide +kernel
theorem dX4_yardSize_1 : decode cX4_yardSize 1 = .ok (.istore_n 1, 1) := by decide +kernel
theorem dX4_yardSize_2 : decode cX4_yardSize 2 = .ok (.iconst 0, 1) := by decide +kernel
theorem dX4_yardSize_3 : decode cX4_yardSize 3 = .ok (.istore_n 2, 1) := by decide +kernel
theorem dX4_yardSize_4 : decode cX4_yardSize 4 = .ok (.iload_n 2, 1) := by decide +kernel
theorem dX4_yardSize_5 : decode cX4_yardSize 5 = .ok (.aload_n 0, 1) := by decide +kernel
theorem dX4_yardSize_6 : decode cX4_yardSize 6 = .ok (.getfield 47, 3) := by decide +kernel
theorem dX4_yardSize_9 : decode cX4_yardSize 9 = .ok (.if_icmp .ge 31, 3) := by decide +kernel
theorem dX4_yardSize_12 : decode cX4_yardSize 12 = .ok (.iload_n 1, 1) := by decide +kernel
theorem dX4_yardSize_13 : decode cX4_yardSize 13 = .ok (.aload_n 0, 1) := by decide +kernel
theorem dX4_yardSize_14 : decode cX4_yardSize 14 = .ok (.getfield 20, 3) := by decide +kernel
theorem dX4_yardSize_17 : decode cX4_yardSize 17 = .ok (.iload_n 2, 1) := by decide +kernel
theorem dX4_yardSize_18 : decode cX4_yardSize 18 = .ok (.aaload, 1) := by decide +kernel
theorem dX4_yardSize_19 : decode cX4_yardSize 19 = .ok (.getfield 101, 3) := by decide +kernel
theorem dX4_yardSize_22 : decode cX4_yardSize 22 = .ok (.bipush (-5), 2) := by decide +kernel
theorem dX4_yardSize_24 : decode cX4_yardSize 24 = .ok (.if_icmp .ne 7, 3) := by decide +kernel
theorem dX4_yardSize_27 : decode cX4_yardSize 27 = .ok (.iconst 1, 1) := by decide +kernel
theorem dX4_yardSize_28 : decode cX4_yardSize 28 = .ok (.goto 4, 3) := by decide +kernel
theorem dX4_yardSize_31 : decode cX4_yardSize 31 = .ok (.iconst 0, 1) := by decide +kernel
theorem dX4_yardSize_32 : decode cX4_yardSize 32 = .ok (.iadd, 1) := by decide +kernel
theorem dX4_yardSize_33 : decode cX4_yardSize 33 = .ok (.istore_n 1, 1) := by decide +kernel
theorem dX4_yardSize_34 : decode cX4_yardSize 34 = .ok (.iinc 2 1, 3) := by decide +kernel
theorem dX4_yardSize_37 : decode cX4_yardSize 37 = .ok (.goto (-33), 3) := by decide +kernel
theorem dX4_yardSize_40 : decode cX4_yardSize 40 = .ok (.iload_n 1, 1) := by decide +kernel
theorem dX4_yardSize_41 : decode cX4_yardSize 41 = .ok (.ireturn, 1) := by decide +kernel
theorem dX4_fuelInTanks_0 : decode cX4_fuelInTanks 0 = .ok (.iconst 0, 1) := by decide +kernel
theorem dX4_fuelInTanks_1 : decode cX4_fuelInTanks 1 = .ok (.istore_n 1, 1) := by decide +kernel
theorem dX4_fuelInTanks_2 : decode cX4_fuelInTanks 2 = .ok (.iconst 0, 1) := by decide +kernel
theorem dX4_fuelInTanks_3 : decode cX4_fuelInTanks 3 = .ok (.istore_n 2, 1) := by decide +kernel
theorem dX4_fuelInTanks_4 : decode cX4_fuelInTanks 4 = .ok (.iload_n 2, 1) := by decide +kernel
theorem dX4_fuelInTanks_5 : decode cX4_fuelInTanks 5 = .ok (.aload_n 0, 1) := by decide +kernel
theorem dX4_fuelInTanks_6 : decode cX4_fuelInTanks 6 = .ok (.getfield 47, 3) := by decide +kernel
theorem dX4_fuelInTanks_9 : decode cX4_fuelInTanks 9 = .ok (.if_icmp .ge 21, 3) := by decide +kernel
theorem dX4_fuelInTanks_12 : decode cX4_fuelInTanks 12 = .ok (.iload_n 1, 1) := by decide +kernel
theorem dX4_fuelInTanks_13 : decode cX4_fuelInTanks 13 = .ok (.aload_n 0, 1) := by decide +kernel
theorem dX4_fuelInTanks_14 : decode cX4_fuelInTanks 14 = .ok (.getfield 20, 3) := by decide +kernel
theorem dX4_fuelInTanks_17 : decode cX4_fuelInTanks 17 = .ok (.iload_n 2, 1) := by decide +kernel
theorem dX4_fuelInTanks_18 : decode cX4_fuelInTanks 18 = .ok (.aaload, 1) := by decide +kernel
theorem dX4_fuelInTanks_19 : decode cX4_fuelInTanks 19 = .ok (.getfield 76, 3) := by decide +kernel
theorem dX4_fuelInTanks_22 : decode cX4_fuelInTanks 22 = .ok (.iadd, 1) := by decide +kernel
theorem dX4_fuelInTanks_23 : decode cX4_fuelInTanks 23 = .ok (.istore_n 1, 1) := by decide +kernel
theorem dX4_fuelInTanks_24 : decode cX4_fuelInTanks 24 = .ok (.iinc 2 1, 3) := by decide +kernel
theorem dX4_fuelInTanks_27 : decode cX4_fuelInTanks 27 = .ok (.goto (-23), 3) := by decide +kernel
theorem dX4_fuelInTanks_30 : decode cX4_fuelInTanks 30 = .ok (.iload_n 1, 1) := by decide +kernel
theorem dX4_fuelInTanks_31 : decode cX4_fuelInTanks 31 = .ok (.ireturn, 1) := by decide +kernel
theorem dX4_litTotal_0 : decode cX4_litTotal 0 = .ok (.iconst 0, 1) := by decide +kernel
theorem dX4_litTotal_1 : decode cX4_litTotal 1 = .ok (.istore_n 1, 1) := by decide +kernel
theorem dX4_litTotal_2 : decode cX4_litTotal 2 = .ok (.iconst 0, 1) := by decide +kernel
theorem dX4_litTotal_3 : decode cX4_litTotal 3 = .ok (.istore_n 2, 1) := by decide +kernel
theorem dX4_litTotal_4 : decode cX4_litTotal 4 = .ok (.iload_n 2, 1) := by decide +kernel
theorem dX4_litTotal_5 : decode cX4_litTotal 5 = .ok (.aload_n 0, 1) := by decide +kernel
theorem dX4_litTotal_6 : decode cX4_litTotal 6 = .ok (.getfield 50, 3) := by decide +kernel
theorem dX4_litTotal_9 : decode cX4_litTotal 9 = .ok (.if_icmp .ge 21, 3) := by decide +kernel
theorem dX4_litTotal_12 : decode cX4_litTotal 12 = .ok (.iload_n 1, 1) := by decide +kernel
theorem dX4_litTotal_13 : decode cX4_litTotal 13 = .ok (.aload_n 0, 1) := by decide +kernel
theorem dX4_litTotal_14 : decode cX4_litTotal 14 = .ok (.getfield 26, 3) := by decide +kernel
theorem dX4_litTotal_17 : decode cX4_litTotal 17 = .ok (.iload_n 2, 1) := by decide +kernel
theorem dX4_litTotal_18 : decode cX4_litTotal 18 = .ok (.aaload, 1) := by decide +kernel
theorem dX4_litTotal_19 : decode cX4_litTotal 19 = .ok (.getfield 171, 3) := by decide +kernel
theorem dX4_litTotal_22 : decode cX4_litTotal 22 = .ok (.iadd, 1) := by decide +kernel
theorem dX4_litTotal_23 : decode cX4_litTotal 23 = .ok (.istore_n 1, 1) := by decide +kernel
theorem dX4_litTotal_24 : decode cX4_litTotal 24 = .ok (.iinc 2 1, 3) := by decide +kernel
theorem dX4_litTotal_27 : decode cX4_litTotal 27 = .ok (.goto (-23), 3) := by decide +kernel
theorem dX4_litTotal_30 : decode cX4_litTotal 30 = .ok (.iload_n 1, 1) := by decide +kernel
theorem dX4_litTotal_31 : decode cX4_litTotal 31 = .ok (.ireturn, 1) := by decide +kernel
theorem dX4_darkTotal_0 : decode cX4_darkTotal 0 = .ok (.iconst 0, 1) := by decide +kernel
theorem dX4_darkTotal_1 : decode cX4_darkTotal 1 = .ok (.istore_n 1, 1) := by decide +kernel
theorem dX4_darkTotal_2 : decode cX4_darkTotal 2 = .ok (.iconst 0, 1) := by decide +kernel
theorem dX4_darkTotal_3 : decode cX4_darkTotal 3 = .ok (.istore_n 2, 1) := by decide +kernel
theorem dX4_darkTotal_4 : decode cX4_darkTotal 4 = .ok (.iload_n 2, 1) := by decide +kernel
theorem dX4_darkTotal_5 : decode cX4_darkTotal 5 = .ok (.aload_n 0, 1) := by decide +kernel
theorem dX4_darkTotal_6 : decode cX4_darkTotal 6 = .ok (.getfield 50, 3) := by decide +kernel
theorem dX4_darkTotal_9 : decode cX4_darkTotal 9 = .ok (.if_icmp .ge 21, 3) := by decide +kernel
theorem dX4_darkTotal_12 : decode cX4_darkTotal 12 = .ok (.iload_n 1, 1) := by decide +kernel
theorem dX4_darkTotal_13 : decode cX4_darkTotal 13 = .ok (.aload_n 0, 1) := by decide +kernel
theorem dX4_darkTotal_14 : decode cX4_darkTotal 14 = .ok (.getfield 26, 3) := by decide +kernel
theorem dX4_darkTotal_17 : decode cX4_darkTotal 17 = .ok (.iload_n 2, 1) := by decide +kernel
theorem dX4_darkTotal_18 : decode cX4_darkTotal 18 = .ok (.aaload, 1) := by decide +kernel
theorem dX4_darkTotal_19 : decode cX4_darkTotal 19 = .ok (.getfield 168, 3) := by decide +kernel
theorem dX4_darkTotal_22 : decode cX4_darkTotal 22 = .ok (.iadd, 1) := by decide +kernel
theorem dX4_darkTotal_23 : decode cX4_darkTotal 23 = .ok (.istore_n 1, 1) := by decide +kernel
theorem dX4_darkTotal_24 : decode cX4_darkTotal 24 = .ok (.iinc 2 1, 3) := by decide +kernel
theorem dX4_darkTotal_27 : decode cX4_darkTotal 27 = .ok (.goto (-23), 3) := by decide +kernel
theorem dX4_darkTotal_30 : decode cX4_darkTotal 30 = .ok (.iload_n 1, 1) := by decide +kernel
theorem dX4_darkTotal_31 : decode cX4_darkTotal 31 = .ok (.ireturn, 1) := by decide +kernel
theorem dX4_billTotal_0 : decode cX4_billTotal 0 = .ok (.iconst 0, 1) := by decide +kernel
theorem dX4_billTotal_1 : decode cX4_billTotal 1 = .ok (.istore_n 1, 1) := by decide +kernel
theorem dX4_billTotal_2 : decode cX4_billTotal 2 = .ok (.iconst 0, 1) := by decide +kernel
theorem dX4_billTotal_3 : decode cX4_billTotal 3 = .ok (.istore_n 2, 1) := by decide +kernel
theorem dX4_billTotal_4 : decode cX4_billTotal 4 = .ok (.iload_n 2, 1) := by decide +kernel
theorem dX4_billTotal_5 : decode cX4_billTotal 5 = .ok (.aload_n 0, 1) := by decide +kernel
theorem dX4_billTotal_6 : decode cX4_billTotal 6 = .ok (.getfield 50, 3) := by decide +kernel
theorem dX4_billTotal_9 : decode cX4_billTotal 9 = .ok (.if_icmp .ge 21, 3) := by decide +kernel
theorem dX4_billTotal_12 : decode cX4_billTotal 12 = .ok (.iload_n 1, 1) := by decide +kernel
theorem dX4_billTotal_13 : decode cX4_billTotal 13 = .ok (.aload_n 0, 1) := by decide +kernel
theorem dX4_billTotal_14 : decode cX4_billTotal 14 = .ok (.getfield 26, 3) := by decide +kernel
theorem dX4_billTotal_17 : decode cX4_billTotal 17 = .ok (.iload_n 2, 1) := by decide +kernel
theorem dX4_billTotal_18 : decode cX4_billTotal 18 = .ok (.aaload, 1) := by decide +kernel
theorem dX4_billTotal_19 : decode cX4_billTotal 19 = .ok (.getfield 174, 3) := by decide +kernel
theorem dX4_billTotal_22 : decode cX4_billTotal 22 = .ok (.iadd, 1) := by decide +kernel
theorem dX4_billTotal_23 : decode cX4_billTotal 23 = .ok (.istore_n 1, 1) := by decide +kernel
theorem dX4_billTotal_24 : decode cX4_billTotal 24 = .ok (.iinc 2 1, 3) := by decide +kernel
theorem dX4_billTotal_27 : decode cX4_billTotal 27 = .ok (.goto (-23), 3) := by decide +kernel
theorem dX4_billTotal_30 : decode cX4_billTotal 30 = .ok (.iload_n 1, 1) := by decide +kernel
theorem dX4_billTotal_31 : decode cX4_billTotal 31 = .ok (.ireturn, 1) := by decide +kernel
end
section
theorem dX5_init_0 : decode cX5_init 0 = .ok (.aload_n 0, 1) := by decide +kernel
theorem dX5_init_1 : decode cX5_init 1 = .ok (.invokespecial 1, 3) := by decide +kernel
theorem dX5_init_4 : decode cX5_init 4 = .ok (.aload_n 0, 1) := by decide +kernel
theorem dX5_init_5 : decode cX5_init 5 = .ok (.new 7, 3) := by decide +kernel
theorem dX5_init_8 : decode cX5_init 8 = .ok (.dup, 1) := by decide +kernel
theorem dX5_init_9 : decode cX5_init 9 = .ok (.invokespecial 9, 3) := by decide +kernel
theorem dX5_init_12 : decode cX5_init 12 = .ok (.putfield 10, 3) := by decide +kernel
theorem dX5_init_15 : decode cX5_init 15 = .ok (.aload_n 0, 1) := by decide +kernel
theorem dX5_init_16 : decode cX5_init 16 = .ok (.new 7, 3) := by decide +kernel
theorem dX5_init_19 : decode cX5_init 19 = .ok (.dup, 1) := by decide +kernel
theorem dX5_init_20 : decode cX5_init 20 = .ok (.invokespecial 9, 3) := by decide +kernel
theorem dX5_init_23 : decode cX5_init 23 = .ok (.putfield 16, 3) := by decide +kernel
theorem dX5_init_26 : decode cX5_init 26 = .ok (.aload_n 0, 1) := by decide +kernel
theorem dX5_init_27 : decode cX5_init 27 = .ok (.new 7, 3) := by decide +kernel
theorem dX5_init_30 : decode cX5_init 30 = .ok (.dup, 1) := by decide +kernel
theorem dX5_init_31 : decode cX5_init 31 = .ok (.invokespecial 9, 3) := by decide +kernel
theorem dX5_init_34 : decode cX5_init 34 = .ok (.putfield 19, 3) := by decide +kernel
theorem dX5_init_37 : decode cX5_init 37 = .ok (.aload_n 0, 1) := by decide +kernel
theorem dX5_init_38 : decode cX5_init 38 = .ok (.iconst 0, 1) := by decide +kernel
theorem dX5_init_39 : decode cX5_init 39 = .ok (.putfield 22, 3) := by decide +kernel
theorem dX5_init_42 : decode cX5_init 42 = .ok (.aload_n 0, 1) := by decide +kernel
theorem dX5_init_43 : decode cX5_init 43 = .ok (.new 26, 3) := by decide +kernel
theorem dX5_init_46 : decode cX5_init 46 = .ok (.dup, 1) := by decide +kernel
theorem dX5_init_47 : decode cX5_init 47 = .ok (.invokespecial 28, 3) := by decide +kernel
theorem dX5_init_50 : decode cX5_init 50 = .ok (.putfield 29, 3) := by decide +kernel
theorem dX5_init_53 : decode cX5_init 53 = .ok (.aload_n 0, 1) := by decide +kernel
theorem dX5_init_54 : decode cX5_init 54 = .ok (.new 33, 3) := by decide +kernel
theorem dX5_init_57 : decode cX5_init 57 = .ok (.dup, 1) := by decide +kernel
theorem dX5_init_58 : decode cX5_init 58 = .ok (.invokespecial 35, 3) := by decide +kernel
theorem dX5_init_61 : decode cX5_init 61 = .ok (.putfield 36, 3) := by decide +kernel
theorem dX5_init_64 : decode cX5_init 64 = .ok (.aload_n 0, 1) := by decide +kernel
theorem dX5_init_65 : decode cX5_init 65 = .ok (.bipush 12, 2) := by decide +kernel
theorem dX5_init_67 : decode cX5_init 67 = .ok (.newarray .int, 2) := by decide +kernel
theorem dX5_init_69 : decode cX5_init 69 = .ok (.putfield 40, 3) := by decide +kernel
theorem dX5_init_72 : decode cX5_init 72 = .ok (.return_, 1) := by decide +kernel
theorem dX5_buy_0 : decode cX5_buy 0 = .ok (.iload_n 1, 1) := by decide +kernel
theorem dX5_buy_1 : decode cX5_buy 1 = .ok (.iconst 1, 1) := by decide +kernel
theorem dX5_buy_2 : decode cX5_buy 2 = .ok (.sipush 5000, 3) := by decide +kernel
theorem dX5_buy_5 : decode cX5_buy 5 = .ok (.invokestatic 44, 3) := by decide +kernel
theorem dX5_buy_8 : decode cX5_buy 8 = .ok (.ifCond .ne 6, 3) := by decide +kernel
theorem dX5_buy_11 : decode cX5_buy 11 = .ok (.bipush (-2), 2) := by decide +kernel
theorem dX5_buy_13 : decode cX5_buy 13 = .ok (.ireturn, 1) := by decide +kernel
theorem dX5_buy_14 : decode cX5_buy 14 = .ok (.aload_n 0, 1) := by decide +kernel
theorem dX5_buy_15 : decode cX5_buy 15 = .ok (.getfield 10, 3) := by decide +kernel
theorem dX5_buy_18 : decode cX5_buy 18 = .ok (.getfield 48, 3) := by decide +kernel
theorem dX5_buy_21 : decode cX5_buy 21 = .ok (.iload_n 1, 1) := by decide +kernel
theorem dX5_buy_22 : decode cX5_buy 22 = .ok (.iadd, 1) := by decide +kernel
theorem dX5_buy_23 : decode cX5_buy 23 = .ok (.ldc 52, 2) := by decide +kernel
theorem dX5_buy_25 : decode cX5_buy 25 = .ok (.if_icmp .le 6, 3) := by decide +kernel
theorem dX5_buy_28 : decode cX5_buy 28 = .ok (.bipush (-3), 2) := by decide +kernel
theorem dX5_buy_30 : decode cX5_buy 30 = .ok (.ireturn, 1) := by decide +kernel
theorem dX5_buy_31 : decode cX5_buy 31 = .ok (.aload_n 0, 1) := by decide +kernel
theorem dX5_buy_32 : decode cX5_buy 32 = .ok (.getfield 29, 3) := by decide +kernel
theorem dX5_buy_35 : decode cX5_buy 35 = .ok (.aload_n 0, 1) := by decide +kernel
theorem dX5_buy_36 : decode cX5_buy 36 = .ok (.getfield 10, 3) := by decide +kernel
theorem dX5_buy_39 : decode cX5_buy 39 = .ok (.invokevirtual 53, 3) := by decide +kernel
theorem dX5_buy_42 : decode cX5_buy 42 = .ok (.aload_n 0, 1) := by decide +kernel
theorem dX5_buy_43 : decode cX5_buy 43 = .ok (.getfield 10, 3) := by decide +kernel
theorem dX5_buy_46 : decode cX5_buy 46 = .ok (.dup, 1) := by decide +kernel
theorem dX5_buy_47 : decode cX5_buy 47 = .ok (.getfield 48, 3) := by decide +kernel
theorem dX5_buy_50 : decode cX5_buy 50 = .ok (.iload_n 1, 1) := by decide +kernel
theorem dX5_buy_51 : decode cX5_buy 51 = .ok (.iadd, 1) := by decide +kernel
theorem dX5_buy_52 : decode cX5_buy 52 = .ok (.putfield 48, 3) := by decide +kernel
theorem dX5_buy_55 : decode cX5_buy 55 = .ok (.aload_n 0, 1) := by decide +kernel
theorem dX5_buy_56 : decode cX5_buy 56 = .ok (.getfield 10, 3) := by decide +kernel
theorem dX5_buy_59 : decode cX5_buy 59 = .ok (.dup, 1) := by decide +kernel
theorem dX5_buy_60 : decode cX5_buy 60 = .ok (.getfield 57, 3) := by decide +kernel
theorem dX5_buy_63 : decode cX5_buy 63 = .ok (.iload_n 1, 1) := by decide +kernel
theorem dX5_buy_64 : decode cX5_buy 64 = .ok (.iadd, 1) := by decide +kernel
theorem dX5_buy_65 : decode cX5_buy 65 = .ok (.putfield 57, 3) := by decide +kernel
theorem dX5_buy_68 : decode cX5_buy 68 = .ok (.aload_n 0, 1) := by decide +kernel
theorem dX5_buy_69 : decode cX5_buy 69 = .ok (.getfield 10, 3) := by decide +kernel
theorem dX5_buy_72 : decode cX5_buy 72 = .ok (.getfield 48, 3) := by decide +kernel
theorem dX5_buy_75 : decode cX5_buy 75 = .ok (.ireturn, 1) := by decide +kernel
theorem dX5_weather_0 : decode cX5_weather 0 = .ok (.iload_n 1, 1) := by decide +kernel
theorem dX5_weather_1 : decode cX5_weather 1 = .ok (.bipush (-30), 2) := by decide +kernel
theorem dX5_weather_3 : decode cX5_weather 3 = .ok (.bipush 20, 2) := by decide +kernel
theorem dX5_weather_5 : decode cX5_weather 5 = .ok (.invokestatic 44, 3) := by decide +kernel
theorem dX5_weather_8 : decode cX5_weather 8 = .ok (.ifCond .ne 6, 3) := by decide +kernel
theorem dX5_weather_11 : decode cX5_weather 11 = .ok (.bipush (-2), 2) := by decide +kernel
theorem dX5_weather_13 : decode cX5_weather 13 = .ok (.ireturn, 1) := by decide +kernel
theorem dX5_weather_14 : decode cX5_weather 14 = .ok (.iload_n 1, 1) := by decide +kernel
theorem dX5_weather_15 : decode cX5_weather 15 = .ok (.aload_n 0, 1) := by decide +kernel
theorem dX5_weather_16 : decode cX5_weather 16 = .ok (.getfield 10, 3) := by decide +kernel
theorem dX5_weather_19 : decode cX5_weather 19 = .ok (.getfield 60, 3) := by decide +kernel
theorem dX5_weather_22 : decode cX5_weather 22 = .ok (.if_icmp .ne 6, 3) := by decide +kernel
theorem dX5_weather_25 : decode cX5_weather 25 = .ok (.bipush (-5), 2) := by decide +kernel
theorem dX5_weather_27 : decode cX5_weather 27 = .ok (.ireturn, 1) := by decide +kernel
theorem dX5_weather_28 : decode cX5_weather 28 = .ok (.aload_n 0, 1) := by decide +kernel
theorem dX5_weather_29 : decode cX5_weather 29 = .ok (.getfield 29, 3) := by decide +kernel
theorem dX5_weather_32 : decode cX5_weather 32 = .ok (.aload_n 0, 1) := by decide +kernel
theorem dX5_weather_33 : decode cX5_weather 33 = .ok (.getfield 10, 3) := by decide +kernel
theorem dX5_weather_36 : decode cX5_weather 36 = .ok (.invokevirtual 53, 3) := by decide +kernel
theorem dX5_weather_39 : decode cX5_weather 39 = .ok (.iload_n 1, 1) := by decide +kernel
theorem dX5_weather_40 : decode cX5_weather 40 = .ok (.aload_n 0, 1) := by decide +kernel
theorem dX5_weather_41 : decode cX5_weather 41 = .ok (.getfield 10, 3) := by decide +kernel
theorem dX5_weather_44 : decode cX5_weather 44 = .ok (.getfield 60, 3) := by decide +kernel
theorem dX5_weather_47 : decode cX5_weather 47 = .ok (.isub, 1) := by decide +kernel
theorem dX5_weather_48 : decode cX5_weather 48 = .ok (.invokestatic 63, 3) := by decide +kernel
theorem dX5_weather_51 : decode cX5_weather 51 = .ok (.istore_n 2, 1) := by decide +kernel
theorem dX5_weather_52 : decode cX5_weather 52 = .ok (.aload_n 0, 1) := by decide +kernel
theorem dX5_weather_53 : decode cX5_weather 53 = .ok (.getfield 10, 3) := by decide +kernel
theorem dX5_weather_56 : decode cX5_weather 56 = .ok (.iload_n 1, 1) := by decide +kernel
theorem dX5_weather_57 : decode cX5_weather 57 = .ok (.putfield 60, 3) := by decide +kernel
theorem dX5_weather_60 : decode cX5_weather 60 = .ok (.iload_n 2, 1) := by decide +kernel
theorem dX5_weather_61 : decode cX5_weather 61 = .ok (.ireturn, 1) := by decide +kernel
theorem dX5_setPrice_0 : decode cX5_setPrice 0 = .ok (.iload_n 1, 1) := by decide +kernel
theorem dX5_setPrice_1 : decode cX5_setPrice 1 = .ok (.iconst 1, 1) := by decide +kernel
theorem dX5_setPrice_2 : decode cX5_setPrice 2 = .ok (.bipush 99, 2) := by decide +kernel
theorem dX5_setPrice_4 : decode cX5_setPrice 4 = .ok (.invokestatic 44, 3) := by decide +kernel
theorem dX5_setPrice_7 : decode cX5_setPrice 7 = .ok (.ifCond .ne 6, 3) := by decide +kernel
theorem dX5_setPrice_10 : decode cX5_setPrice 10 = .ok (.bipush (-2), 2) := by decide +kernel
theorem dX5_setPrice_12 : decode cX5_setPrice 12 = .ok (.ireturn, 1) := by decide +kernel
theorem dX5_setPrice_13 : decode cX5_setPrice 13 = .ok (.iload_n 1, 1) := by decide +kernel
theorem dX5_setPrice_14 : decode cX5_setPrice 14 = .ok (.aload_n 0, 1) := by decide +kernel
theorem dX5_setPrice_15 : decode cX5_setPrice 15 = .ok (.getfield 10, 3) := by decide +kernel
theorem dX5_setPrice_18 : decode cX5_setPrice 18 = .ok (.getfield 69, 3) := by decide +kernel
theorem dX5_setPrice_21 : decode cX5_setPrice 21 = .ok (.if_icmp .ne 6, 3) := by decide +kernel
theorem dX5_setPrice_24 : decode cX5_setPrice 24 = .ok (.bipush (-5), 2) := by decide +kernel
theorem dX5_setPrice_26 : decode cX5_setPrice 26 = .ok (.ireturn, 1) := by decide +kernel
theorem dX5_setPrice_27 : decode cX5_setPrice 27 = .ok (.aload_n 0, 1) := by decide +kernel
theorem dX5_setPrice_28 : decode cX5_setPrice 28 = .ok (.getfield 29, 3) := by decide +kernel
theorem dX5_setPrice_31 : decode cX5_setPrice 31 = .ok (.aload_n 0, 1) := by decide +kernel
theorem dX5_setPrice_32 : decode cX5_setPrice 32 = .ok (.getfield 10, 3) := by decide +kernel
theorem dX5_setPrice_35 : decode cX5_setPrice 35 = .ok (.invokevirtual 53, 3) := by decide +kernel
theorem dX5_setPrice_38 : decode cX5_setPrice 38 = .ok (.aload_n 0, 1) := by decide +kernel
theorem dX5_setPrice_39 : decode cX5_setPrice 39 = .ok (.getfield 10, 3) := by decide +kernel
theorem dX5_setPrice_42 : decode cX5_setPrice 42 = .ok (.getfield 69, 3) := by decide +kernel
theorem dX5_setPrice_45 : decode cX5_setPrice 45 = .ok (.istore_n 2, 1) := by decide +kernel
theorem dX5_setPrice_46 : decode cX5_setPrice 46 = .ok (.aload_n 0, 1) := by decide +kernel
theorem dX5_setPrice_47 : decode cX5_setPrice 47 = .ok (.getfield 10, 3) := by decide +kernel
theorem dX5_setPrice_50 : decode cX5_setPrice 50 = .ok (.iload_n 1, 1) := by decide +kernel
theorem dX5_setPrice_51 : decode cX5_setPrice 51 = .ok (.putfield 69, 3) := by decide +kernel
theorem dX5_setPrice_54 : decode cX5_setPrice 54 = .ok (.iload_n 2, 1) := by decide +kernel
theorem dX5_setPrice_55 : decode cX5_setPrice 55 = .ok (.ireturn, 1) := by decide +kernel
theorem dX5_addSet_0 : decode cX5_addSet 0 = .ok (.iload_n 1, 1) := by decide +kernel
theorem dX5_addSet_1 : decode cX5_addSet 1 = .ok (.iconst 1, 1) := by decide +kernel
theorem dX5_addSet_2 : decode cX5_addSet 2 = .ok (.bipush 99, 2) := by decide +kernel
theorem dX5_addSet_4 : decode cX5_addSet 4 = .ok (.invokestatic 44, 3) := by decide +kernel
theorem dX5_addSet_7 : decode cX5_addSet 7 = .ok (.ifCond .eq 46, 3) := by decide +kernel
theorem dX5_addSet_10 : decode cX5_addSet 10 = .ok (.iload_n 2, 1) := by decide +kernel
theorem dX5_addSet_11 : decode cX5_addSet 11 = .ok (.bipush 10, 2) := by decide +kernel
theorem dX5_addSet_13 : decode cX5_addSet 13 = .ok (.sipush 500, 3) := by decide +kernel
theorem dX5_addSet_16 : decode cX5_addSet 16 = .ok (.invokestatic 44, 3) := by decide +kernel
theorem dX5_addSet_19 : decode cX5_addSet 19 = .ok (.ifCond .eq 34, 3) := by decide +kernel
theorem dX5_addSet_22 : decode cX5_addSet 22 = .ok (.iload_n 3, 1) := by decide +kernel
theorem dX5_addSet_23 : decode cX5_addSet 23 = .ok (.iconst 1, 1) := by decide +kernel
theorem dX5_addSet_24 : decode cX5_addSet 24 = .ok (.bipush 50, 2) := by decide +kernel
theorem dX5_addSet_26 : decode cX5_addSet 26 = .ok (.invokestatic 44, 3) := by decide +kernel
theorem dX5_addSet_29 : decode cX5_addSet 29 = .ok (.ifCond .eq 24, 3) := by decide +kernel
theorem dX5_addSet_32 : decode cX5_addSet 32 = .ok (.iload_n 3, 1) := by decide +kernel
theorem dX5_addSet_33 : decode cX5_addSet 33 = .ok (.iload_n 2, 1) := by decide +kernel
theorem dX5_addSet_34 : decode cX5_addSet 34 = .ok (.if_icmp .gt 19, 3) := by decide +kernel
theorem dX5_addSet_37 : decode cX5_addSet 37 = .ok (.iload 4, 2) := by decide +kernel
theorem dX5_addSet_39 : decode cX5_addSet 39 = .ok (.bipush (-30), 2) := by decide +kernel
theorem dX5_addSet_41 : decode cX5_addSet 41 = .ok (.bipush 10, 2) := by decide +kernel
theorem dX5_addSet_43 : decode cX5_addSet 43 = .ok (.invokestatic 44, 3) := by decide +kernel
theorem dX5_addSet_46 : decode cX5_addSet 46 = .ok (.ifCond .eq 7, 3) := by decide +kernel
theorem dX5_addSet_49 : decode cX5_addSet 49 = .ok (.iconst 1, 1) := by decide +kernel
theorem dX5_addSet_50 : decode cX5_addSet 50 = .ok (.goto 4, 3) := by decide +kernel
theorem dX5_addSet_53 : decode cX5_addSet 53 = .ok (.iconst 0, 1) := by decide +kernel
theorem dX5_addSet_54 : decode cX5_addSet 54 = .ok (.istore 5, 2) := by decide +kernel
theorem dX5_addSet_56 : decode cX5_addSet 56 = .ok (.iload 5, 2) := by decide +kernel
theorem dX5_addSet_58 : decode cX5_addSet 58 = .ok (.ifCond .ne 6, 3) := by decide +kernel
theorem dX5_addSet_61 : decode cX5_addSet 61 = .ok (.bipush (-2), 2) := by decide +kernel
theorem dX5_addSet_63 : decode cX5_addSet 63 = .ok (.ireturn, 1) := by decide +kernel
theorem dX5_addSet_64 : decode cX5_addSet 64 = .ok (.aload_n 0, 1) := by decide +kernel
theorem dX5_addSet_65 : decode cX5_addSet 65 = .ok (.getfield 10, 3) := by decide +kernel
theorem dX5_addSet_68 : decode cX5_addSet 68 = .ok (.getfield 72, 3) := by decide +kernel
theorem dX5_addSet_71 : decode cX5_addSet 71 = .ok (.bipush 10, 2) := by decide +kernel
theorem dX5_addSet_73 : decode cX5_addSet 73 = .ok (.if_icmp .lt 6, 3) := by decide +kernel
theorem dX5_addSet_76 : decode cX5_addSet 76 = .ok (.bipush (-3), 2) := by decide +kernel
theorem dX5_addSet_78 : decode cX5_addSet 78 = .ok (.ireturn, 1) := by decide +kernel
theorem dX5_addSet_79 : decode cX5_addSet 79 = .ok (.aload_n 0, 1) := by decide +kernel
theorem dX5_addSet_80 : decode cX5_addSet 80 = .ok (.getfield 29, 3) := by decide +kernel
theorem dX5_addSet_83 : decode cX5_addSet 83 = .ok (.aload_n 0, 1) := by decide +kernel
theorem dX5_addSet_84 : decode cX5_addSet 84 = .ok (.getfield 10, 3) := by decide +kernel
theorem dX5_addSet_87 : decode cX5_addSet 87 = .ok (.invokevirtual 53, 3) := by decide +kernel
theorem dX5_addSet_90 : decode cX5_addSet 90 = .ok (.aload_n 0, 1) := by decide +kernel
theorem dX5_addSet_91 : decode cX5_addSet 91 = .ok (.getfield 10, 3) := by decide +kernel
theorem dX5_addSet_94 : decode cX5_addSet 94 = .ok (.iload_n 1, 1) := by decide +kernel
theorem dX5_addSet_95 : decode cX5_addSet 95 = .ok (.iload_n 2, 1) := by decide +kernel
theorem dX5_addSet_96 : decode cX5_addSet 96 = .ok (.iload_n 3, 1) := by decide +kernel
theorem dX5_addSet_97 : decode cX5_addSet 97 = .ok (.iload 4, 2) := by decide +kernel
theorem dX5_addSet_99 : decode cX5_addSet 99 = .ok (.invokevirtual 75, 3) := by decide +kernel
theorem dX5_addSet_102 : decode cX5_addSet 102 = .ok (.ireturn, 1) := by decide +kernel
theorem dX5_fill_0 : decode cX5_fill 0 = .ok (.aload_n 0, 1) := by decide +kernel
theorem dX5_fill_1 : decode cX5_fill 1 = .ok (.getfield 10, 3) := by decide +kernel
theorem dX5_fill_4 : decode cX5_fill 4 = .ok (.iload_n 1, 1) := by decide +kernel
theorem dX5_fill_5 : decode cX5_fill 5 = .ok (.invokevirtual 79, 3) := by decide +kernel
theorem dX5_fill_8 : decode cX5_fill 8 = .ok (.ifCond .ne 5, 3) := by decide +kernel
theorem dX5_fill_11 : decode cX5_fill 11 = .ok (.iconst (-1), 1) := by decide +kernel
theorem dX5_fill_12 : decode cX5_fill 12 = .ok (.ireturn, 1) := by decide +kernel
theorem dX5_fill_13 : decode cX5_fill 13 = .ok (.aload_n 0, 1) := by decide +kernel
theorem dX5_fill_14 : decode cX5_fill 14 = .ok (.getfield 10, 3) := by decide +kernel
theorem dX5_fill_17 : decode cX5_fill 17 = .ok (.getfield 83, 3) := by decide +kernel
theorem dX5_fill_20 : decode cX5_fill 20 = .ok (.iload_n 1, 1) := by decide +kernel
theorem dX5_fill_21 : decode cX5_fill 21 = .ok (.aaload, 1) := by decide +kernel
theorem dX5_fill_22 : decode cX5_fill 22 = .ok (.astore_n 2, 1) := by decide +kernel
theorem dX5_fill_23 : decode cX5_fill 23 = .ok (.aload_n 2, 1) := by decide +kernel
theorem dX5_fill_24 : decode cX5_fill 24 = .ok (.getfield 87, 3) := by decide +kernel
theorem dX5_fill_27 : decode cX5_fill 27 = .ok (.bipush (-5), 2) := by decide +kernel
theorem dX5_fill_29 : decode cX5_fill 29 = .ok (.if_icmp .eq 6, 3) := by decide +kernel
theorem dX5_fill_32 : decode cX5_fill 32 = .ok (.bipush (-4), 2) := by decide +kernel
theorem dX5_fill_34 : decode cX5_fill 34 = .ok (.ireturn, 1) := by decide +kernel
theorem dX5_fill_35 : decode cX5_fill 35 = .ok (.aload_n 2, 1) := by decide +kernel
theorem dX5_fill_36 : decode cX5_fill 36 = .ok (.invokevirtual 92, 3) := by decide +kernel
theorem dX5_fill_39 : decode cX5_fill 39 = .ok (.aload_n 0, 1) := by decide +kernel
theorem dX5_fill_40 : decode cX5_fill 40 = .ok (.getfield 10, 3) := by decide +kernel
theorem dX5_fill_43 : decode cX5_fill 43 = .ok (.getfield 48, 3) := by decide +kernel
theorem dX5_fill_46 : decode cX5_fill 46 = .ok (.invokestatic 96, 3) := by decide +kernel
theorem dX5_fill_49 : decode cX5_fill 49 = .ok (.istore_n 3, 1) := by decide +kernel
theorem dX5_fill_50 : decode cX5_fill 50 = .ok (.iload_n 3, 1) := by decide +kernel
theorem dX5_fill_51 : decode cX5_fill 51 = .ok (.ifCond .gt 6, 3) := by decide +kernel
theorem dX5_fill_54 : decode cX5_fill 54 = .ok (.bipush (-5), 2) := by decide +kernel
theorem dX5_fill_56 : decode cX5_fill 56 = .ok (.ireturn, 1) := by decide +kernel
theorem dX5_fill_57 : decode cX5_fill 57 = .ok (.aload_n 0, 1) := by decide +kernel
theorem dX5_fill_58 : decode cX5_fill 58 = .ok (.getfield 29, 3) := by decide +kernel
theorem dX5_fill_61 : decode cX5_fill 61 = .ok (.aload_n 0, 1) := by decide +kernel
theorem dX5_fill_62 : decode cX5_fill 62 = .ok (.getfield 10, 3) := by decide +kernel
theorem dX5_fill_65 : decode cX5_fill 65 = .ok (.invokevirtual 53, 3) := by decide +kernel
theorem dX5_fill_68 : decode cX5_fill 68 = .ok (.aload_n 2, 1) := by decide +kernel
theorem dX5_fill_69 : decode cX5_fill 69 = .ok (.dup, 1) := by decide +kernel
theorem dX5_fill_70 : decode cX5_fill 70 = .ok (.getfield 100, 3) := by decide +kernel
theorem dX5_fill_73 : decode cX5_fill 73 = .ok (.iload_n 3, 1) := by decide +kernel
theorem dX5_fill_74 : decode cX5_fill 74 = .ok (.iadd, 1) := by decide +kernel
theorem dX5_fill_75 : decode cX5_fill 75 = .ok (.putfield 100, 3) := by decide +kernel
theorem dX5_fill_78 : decode cX5_fill 78 = .ok (.aload_n 0, 1) := by decide +kernel
theorem dX5_fill_79 : decode cX5_fill 79 = .ok (.getfield 10, 3) := by decide +kernel
theorem dX5_fill_82 : decode cX5_fill 82 = .ok (.dup, 1) := by decide +kernel
theorem dX5_fill_83 : decode cX5_fill 83 = .ok (.getfield 48, 3) := by decide +kernel
theorem dX5_fill_86 : decode cX5_fill 86 = .ok (.iload_n 3, 1) := by decide +kernel
theorem dX5_fill_87 : decode cX5_fill 87 = .ok (.isub, 1) := by decide +kernel
theorem dX5_fill_88 : decode cX5_fill 88 = .ok (.putfield 48, 3) := by decide +kernel
theorem dX5_fill_91 : decode cX5_fill 91 = .ok (.iload_n 3, 1) := by decide +kernel
theorem dX5_fill_92 : decode cX5_fill 92 = .ok (.ireturn, 1) := by decide +kernel
theorem dX5_addSite_0 : decode cX5_addSite 0 = .ok (.iload_n 1, 1) := by decide +kernel
theorem dX5_addSite_1 : decode cX5_addSite 1 = .ok (.iconst 1, 1) := by decide +kernel
theorem dX5_addSite_2 : decode cX5_addSite 2 = .ok (.bipush 9, 2) := by decide +kernel
theorem dX5_addSite_4 : decode cX5_addSite 4 = .ok (.invokestatic 44, 3) := by decide +kernel
theorem dX5_addSite_7 : decode cX5_addSite 7 = .ok (.ifCond .eq 26, 3) := by decide +kernel
theorem dX5_addSite_10 : decode cX5_addSite 10 = .ok (.iload_n 2, 1) := by decide +kernel
theorem dX5_addSite_11 : decode cX5_addSite 11 = .ok (.iconst 1, 1) := by decide +kernel
theorem dX5_addSite_12 : decode cX5_addSite 12 = .ok (.bipush 99, 2) := by decide +kernel
theorem dX5_addSite_14 : decode cX5_addSite 14 = .ok (.invokestatic 44, 3) := by decide +kernel
theorem dX5_addSite_17 : decode cX5_addSite 17 = .ok (.ifCond .eq 16, 3) := by decide +kernel
theorem dX5_addSite_20 : decode cX5_addSite 20 = .ok (.aload_n 0, 1) := by decide +kernel
theorem dX5_addSite_21 : decode cX5_addSite 21 = .ok (.getfield 10, 3) := by decide +kernel
theorem dX5_addSite_24 : decode cX5_addSite 24 = .ok (.iload_n 3, 1) := by decide +kernel
theorem dX5_addSite_25 : decode cX5_addSite 25 = .ok (.iload 4, 2) := by decide +kernel
theorem dX5_addSite_27 : decode cX5_addSite 27 = .ok (.invokevirtual 103, 3) := by decide +kernel
theorem dX5_addSite_30 : decode cX5_addSite 30 = .ok (.ifCond .ne 6, 3) := by decide +kernel
theorem dX5_addSite_33 : decode cX5_addSite 33 = .ok (.bipush (-2), 2) := by decide +kernel
theorem dX5_addSite_35 : decode cX5_addSite 35 = .ok (.ireturn, 1) := by decide +kernel
theorem dX5_addSite_36 : decode cX5_addSite 36 = .ok (.aload_n 0, 1) := by decide +kernel
theorem dX5_addSite_37 : decode cX5_addSite 37 = .ok (.getfield 10, 3) := by decide +kernel
theorem dX5_addSite_40 : decode cX5_addSite 40 = .ok (.getfield 107, 3) := by decide +kernel
theorem dX5_addSite_43 : decode cX5_addSite 43 = .ok (.bipush 12, 2) := by decide +kernel
theorem dX5_addSite_45 : decode cX5_addSite 45 = .ok (.if_icmp .lt 6, 3) := by decide +kernel
theorem dX5_addSite_48 : decode cX5_addSite 48 = .ok (.bipush (-3), 2) := by decide +kernel
theorem dX5_addSite_50 : decode cX5_addSite 50 = .ok (.ireturn, 1) := by decide +kernel
theorem dX5_addSite_51 : decode cX5_addSite 51 = .ok (.aload_n 0, 1) := by decide +kernel
theorem dX5_addSite_52 : decode cX5_addSite 52 = .ok (.getfield 29, 3) := by decide +kernel
theorem dX5_addSite_55 : decode cX5_addSite 55 = .ok (.aload_n 0, 1) := by decide +kernel
theorem dX5_addSite_56 : decode cX5_addSite 56 = .ok (.getfield 10, 3) := by decide +kernel
theorem dX5_addSite_59 : decode cX5_addSite 59 = .ok (.invokevirtual 53, 3) := by decide +kernel
theorem dX5_addSite_62 : decode cX5_addSite 62 = .ok (.aload_n 0, 1) := by decide +kernel
theorem dX5_addSite_63 : decode cX5_addSite 63 = .ok (.getfield 10, 3) := by decide +kernel
theorem dX5_addSite_66 : decode cX5_addSite 66 = .ok (.iload_n 1, 1) := by decide +kernel
theorem dX5_addSite_67 : decode cX5_addSite 67 = .ok (.iload_n 2, 1) := by decide +kernel
theorem dX5_addSite_68 : decode cX5_addSite 68 = .ok (.iload_n 3, 1) := by decide +kernel
theorem dX5_addSite_69 : decode cX5_addSite 69 = .ok (.iload 4, 2) := by decide +kernel
theorem dX5_addSite_71 : decode cX5_addSite 71 = .ok (.invokevirtual 110, 3) := by decide +kernel
theorem dX5_addSite_74 : decode cX5_addSite 74 = .ok (.ireturn, 1) := by decide +kernel
theorem dX5_bring_0 : decode cX5_bring 0 = .ok (.aload_n 0, 1) := by decide +kernel
theorem dX5_bring_1 : decode cX5_bring 1 = .ok (.getfield 10, 3) := by decide +kernel
theorem dX5_bring_4 : decode cX5_bring 4 = .ok (.iload_n 1, 1) := by decide +kernel
theorem dX5_bring_5 : decode cX5_bring 5 = .ok (.invokevirtual 79, 3) := by decide +kernel
theorem dX5_bring_8 : decode cX5_bring 8 = .ok (.ifCond .eq 14, 3) := by decide +kernel
theorem dX5_bring_11 : decode cX5_bring 11 = .ok (.aload_n 0, 1) := by decide +kernel
theorem dX5_bring_12 : decode cX5_bring 12 = .ok (.getfield 10, 3) := by decide +kernel
theorem dX5_bring_15 : decode cX5_bring 15 = .ok (.iload_n 2, 1) := by decide +kernel
theorem dX5_bring_16 : decode cX5_bring 16 = .ok (.invokevirtual 113, 3) := by decide +kernel
theorem dX5_bring_19 : decode cX5_bring 19 = .ok (.ifCond .ne 5, 3) := by decide +kernel
theorem dX5_bring_22 : decode cX5_bring 22 = .ok (.iconst (-1), 1) := by decide +kernel
theorem dX5_bring_23 : decode cX5_bring 23 = .ok (.ireturn, 1) := by decide +kernel
theorem dX5_bring_24 : decode cX5_bring 24 = .ok (.aload_n 0, 1) := by decide +kernel
theorem dX5_bring_25 : decode cX5_bring 25 = .ok (.getfield 10, 3) := by decide +kernel
theorem dX5_bring_28 : decode cX5_bring 28 = .ok (.getfield 83, 3) := by decide +kernel
theorem dX5_bring_31 : decode cX5_bring 31 = .ok (.iload_n 1, 1) := by decide +kernel
theorem dX5_bring_32 : decode cX5_bring 32 = .ok (.aaload, 1) := by decide +kernel
theorem dX5_bring_33 : decode cX5_bring 33 = .ok (.astore_n 3, 1) := by decide +kernel
theorem dX5_bring_34 : decode cX5_bring 34 = .ok (.aload_n 0, 1) := by decide +kernel
theorem dX5_bring_35 : decode cX5_bring 35 = .ok (.getfield 10, 3) := by decide +kernel
theorem dX5_bring_38 : decode cX5_bring 38 = .ok (.getfield 116, 3) := by decide +kernel
theorem dX5_bring_41 : decode cX5_bring 41 = .ok (.iload_n 2, 1) := by decide +kernel
theorem dX5_bring_42 : decode cX5_bring 42 = .ok (.aaload, 1) := by decide +kernel
theorem dX5_bring_43 : decode cX5_bring 43 = .ok (.astore 4, 2) := by decide +kernel
theorem dX5_bring_45 : decode cX5_bring 45 = .ok (.aload_n 3, 1) := by decide +kernel
theorem dX5_bring_46 : decode cX5_bring 46 = .ok (.getfield 87, 3) := by decide +kernel
theorem dX5_bring_49 : decode cX5_bring 49 = .ok (.bipush (-5), 2) := by decide +kernel
theorem dX5_bring_51 : decode cX5_bring 51 = .ok (.if_icmp .ne 44, 3) := by decide +kernel
theorem dX5_bring_54 : decode cX5_bring 54 = .ok (.aload 4, 2) := by decide +kernel
theorem dX5_bring_56 : decode cX5_bring 56 = .ok (.getfield 120, 3) := by decide +kernel
theorem dX5_bring_59 : decode cX5_bring 59 = .ok (.bipush (-5), 2) := by decide +kernel
theorem dX5_bring_61 : decode cX5_bring 61 = .ok (.if_icmp .ne 34, 3) := by decide +kernel
theorem dX5_bring_64 : decode cX5_bring 64 = .ok (.aload_n 0, 1) := by decide +kernel
theorem dX5_bring_65 : decode cX5_bring 65 = .ok (.getfield 10, 3) := by decide +kernel
theorem dX5_bring_68 : decode cX5_bring 68 = .ok (.getfield 125, 3) := by decide +kernel
theorem dX5_bring_71 : decode cX5_bring 71 = .ok (.aload 4, 2) := by decide +kernel
theorem dX5_bring_73 : decode cX5_bring 73 = .ok (.getfield 128, 3) := by decide +kernel
theorem dX5_bring_76 : decode cX5_bring 76 = .ok (.if_icmp .ge 19, 3) := by decide +kernel
theorem dX5_bring_79 : decode cX5_bring 79 = .ok (.aload_n 3, 1) := by decide +kernel
theorem dX5_bring_80 : decode cX5_bring 80 = .ok (.getfield 131, 3) := by decide +kernel
theorem dX5_bring_83 : decode cX5_bring 83 = .ok (.aload 4, 2) := by decide +kernel
theorem dX5_bring_85 : decode cX5_bring 85 = .ok (.getfield 134, 3) := by decide +kernel
theorem dX5_bring_88 : decode cX5_bring 88 = .ok (.if_icmp .lt 7, 3) := by decide +kernel
theorem dX5_bring_91 : decode cX5_bring 91 = .ok (.iconst 1, 1) := by decide +kernel
theorem dX5_bring_92 : decode cX5_bring 92 = .ok (.goto 4, 3) := by decide +kernel
theorem dX5_bring_95 : decode cX5_bring 95 = .ok (.iconst 0, 1) := by decide +kernel
theorem dX5_bring_96 : decode cX5_bring 96 = .ok (.istore 5, 2) := by decide +kernel
theorem dX5_bring_98 : decode cX5_bring 98 = .ok (.iload 5, 2) := by decide +kernel
theorem dX5_bring_100 : decode cX5_bring 100 = .ok (.ifCond .ne 6, 3) := by decide +kernel
theorem dX5_bring_103 : decode cX5_bring 103 = .ok (.bipush (-4), 2) := by decide +kernel
theorem dX5_bring_105 : decode cX5_bring 105 = .ok (.ireturn, 1) := by decide +kernel
theorem dX5_bring_106 : decode cX5_bring 106 = .ok (.aload_n 0, 1) := by decide +kernel
theorem dX5_bring_107 : decode cX5_bring 107 = .ok (.getfield 29, 3) := by decide +kernel
theorem dX5_bring_110 : decode cX5_bring 110 = .ok (.aload_n 0, 1) := by decide +kernel
theorem dX5_bring_111 : decode cX5_bring 111 = .ok (.getfield 10, 3) := by decide +kernel
theorem dX5_bring_114 : decode cX5_bring 114 = .ok (.invokevirtual 53, 3) := by decide +kernel
theorem dX5_bring_117 : decode cX5_bring 117 = .ok (.aload_n 0, 1) := by decide +kernel
theorem dX5_bring_118 : decode cX5_bring 118 = .ok (.getfield 10, 3) := by decide +kernel
theorem dX5_bring_121 : decode cX5_bring 121 = .ok (.iload_n 1, 1) := by decide +kernel
theorem dX5_bring_122 : decode cX5_bring 122 = .ok (.iload_n 2, 1) := by decide +kernel
theorem dX5_bring_123 : decode cX5_bring 123 = .ok (.invokevirtual 137, 3) := by decide +kernel
theorem dX5_bring_126 : decode cX5_bring 126 = .ok (.aload_n 0, 1) := by decide +kernel
theorem dX5_bring_127 : decode cX5_bring 127 = .ok (.getfield 10, 3) := by decide +kernel
theorem dX5_bring_130 : decode cX5_bring 130 = .ok (.invokevirtual 141, 3) := by decide +kernel
theorem dX5_bring_133 : decode cX5_bring 133 = .ok (.ireturn, 1) := by decide +kernel
theorem dX5_takeBack_0 : decode cX5_takeBack 0 = .ok (.aload_n 0, 1) := by decide +kernel
theorem dX5_takeBack_1 : decode cX5_takeBack 1 = .ok (.getfield 10, 3) := by decide +kernel
theorem dX5_takeBack_4 : decode cX5_takeBack 4 = .ok (.iload_n 1, 1) := by decide +kernel
theorem dX5_takeBack_5 : decode cX5_takeBack 5 = .ok (.invokevirtual 113, 3) := by decide +kernel
theorem dX5_takeBack_8 : decode cX5_takeBack 8 = .ok (.ifCond .ne 5, 3) := by decide +kernel
theorem dX5_takeBack_11 : decode cX5_takeBack 11 = .ok (.iconst (-1), 1) := by decide +kernel
theorem dX5_takeBack_12 : decode cX5_takeBack 12 = .ok (.ireturn, 1) := by decide +kernel
theorem dX5_takeBack_13 : decode cX5_takeBack 13 = .ok (.aload_n 0, 1) := by decide +kernel
theorem dX5_takeBack_14 : decode cX5_takeBack 14 = .ok (.getfield 10, 3) := by decide +kernel
theorem dX5_takeBack_17 : decode cX5_takeBack 17 = .ok (.getfield 116, 3) := by decide +kernel
theorem dX5_takeBack_20 : decode cX5_takeBack 20 = .ok (.iload_n 1, 1) := by decide +kernel
theorem dX5_takeBack_21 : decode cX5_takeBack 21 = .ok (.aaload, 1) := by decide +kernel
theorem dX5_takeBack_22 : decode cX5_takeBack 22 = .ok (.getfield 120, 3) := by decide +kernel
theorem dX5_takeBack_25 : decode cX5_takeBack 25 = .ok (.istore_n 2, 1) := by decide +kernel
theorem dX5_takeBack_26 : decode cX5_takeBack 26 = .ok (.iload_n 2, 1) := by decide +kernel
theorem dX5_takeBack_27 : decode cX5_takeBack 27 = .ok (.bipush (-5), 2) := by decide +kernel
theorem dX5_takeBack_29 : decode cX5_takeBack 29 = .ok (.if_icmp .ne 6, 3) := by decide +kernel
theorem dX5_takeBack_32 : decode cX5_takeBack 32 = .ok (.bipush (-5), 2) := by decide +kernel
theorem dX5_takeBack_34 : decode cX5_takeBack 34 = .ok (.ireturn, 1) := by decide +kernel
theorem dX5_takeBack_35 : decode cX5_takeBack 35 = .ok (.aload_n 0, 1) := by decide +kernel
theorem dX5_takeBack_36 : decode cX5_takeBack 36 = .ok (.getfield 29, 3) := by decide +kernel
theorem dX5_takeBack_39 : decode cX5_takeBack 39 = .ok (.aload_n 0, 1) := by decide +kernel
theorem dX5_takeBack_40 : decode cX5_takeBack 40 = .ok (.getfield 10, 3) := by decide +kernel
theorem dX5_takeBack_43 : decode cX5_takeBack 43 = .ok (.invokevirtual 53, 3) := by decide +kernel
theorem dX5_takeBack_46 : decode cX5_takeBack 46 = .ok (.aload_n 0, 1) := by decide +kernel
theorem dX5_takeBack_47 : decode cX5_takeBack 47 = .ok (.getfield 10, 3) := by decide +kernel
theorem dX5_takeBack_50 : decode cX5_takeBack 50 = .ok (.iload_n 1, 1) := by decide +kernel
theorem dX5_takeBack_51 : decode cX5_takeBack 51 = .ok (.invokevirtual 144, 3) := by decide +kernel
theorem dX5_takeBack_54 : decode cX5_takeBack 54 = .ok (.iload_n 2, 1) := by decide +kernel
theorem dX5_takeBack_55 : decode cX5_takeBack 55 = .ok (.ireturn, 1) := by decide +kernel
theorem dX5_giveOut_0 : decode cX5_giveOut 0 = .ok (.iconst 0, 1) := by decide +kernel
theorem dX5_giveOut_1 : decode cX5_giveOut 1 = .ok (.istore_n 1, 1) := by decide +kernel
theorem dX5_giveOut_2 : decode cX5_giveOut 2 = .ok (.aload_n 0, 1) := by decide +kernel
theorem dX5_giveOut_3 : decode cX5_giveOut 3 = .ok (.getfield 10, 3) := by decide +kernel
theorem dX5_giveOut_6 : decode cX5_giveOut 6 = .ok (.aload_n 0, 1) := by decide +kernel
theorem dX5_giveOut_7 : decode cX5_giveOut 7 = .ok (.getfield 40, 3) := by decide +kernel
theorem dX5_giveOut_10 : decode cX5_giveOut 10 = .ok (.invokevirtual 148, 3) := by decide +kernel
theorem dX5_giveOut_13 : decode cX5_giveOut 13 = .ok (.istore_n 2, 1) := by decide +kernel
theorem dX5_giveOut_14 : decode cX5_giveOut 14 = .ok (.iconst 0, 1) := by decide +kernel
theorem dX5_giveOut_15 : decode cX5_giveOut 15 = .ok (.istore_n 3, 1) := by decide +kernel
theorem dX5_giveOut_16 : decode cX5_giveOut 16 = .ok (.iload_n 3, 1) := by decide +kernel
theorem dX5_giveOut_17 : decode cX5_giveOut 17 = .ok (.iload_n 2, 1) := by decide +kernel
theorem dX5_giveOut_18 : decode cX5_giveOut 18 = .ok (.if_icmp .ge 87, 3) := by decide +kernel
theorem dX5_giveOut_21 : decode cX5_giveOut 21 = .ok (.aload_n 0, 1) := by decide +kernel
theorem dX5_giveOut_22 : decode cX5_giveOut 22 = .ok (.getfield 40, 3) := by decide +kernel
theorem dX5_giveOut_25 : decode cX5_giveOut 25 = .ok (.iload_n 3, 1) := by decide +kernel
theorem dX5_giveOut_26 : decode cX5_giveOut 26 = .ok (.iaload, 1) := by decide +kernel
theorem dX5_giveOut_27 : decode cX5_giveOut 27 = .ok (.istore 4, 2) := by decide +kernel
theorem dX5_giveOut_29 : decode cX5_giveOut 29 = .ok (.aload_n 0, 1) := by decide +kernel
theorem dX5_giveOut_30 : decode cX5_giveOut 30 = .ok (.getfield 10, 3) := by decide +kernel
theorem dX5_giveOut_33 : decode cX5_giveOut 33 = .ok (.getfield 116, 3) := by decide +kernel
theorem dX5_giveOut_36 : decode cX5_giveOut 36 = .ok (.iload 4, 2) := by decide +kernel
theorem dX5_giveOut_38 : decode cX5_giveOut 38 = .ok (.aaload, 1) := by decide +kernel
theorem dX5_giveOut_39 : decode cX5_giveOut 39 = .ok (.getfield 120, 3) := by decide +kernel
theorem dX5_giveOut_42 : decode cX5_giveOut 42 = .ok (.bipush (-5), 2) := by decide +kernel
theorem dX5_giveOut_44 : decode cX5_giveOut 44 = .ok (.if_icmp .ne 15, 3) := by decide +kernel
theorem dX5_giveOut_47 : decode cX5_giveOut 47 = .ok (.aload_n 0, 1) := by decide +kernel
theorem dX5_giveOut_48 : decode cX5_giveOut 48 = .ok (.getfield 10, 3) := by decide +kernel
theorem dX5_giveOut_51 : decode cX5_giveOut 51 = .ok (.iload 4, 2) := by decide +kernel
theorem dX5_giveOut_53 : decode cX5_giveOut 53 = .ok (.invokevirtual 152, 3) := by decide +kernel
theorem dX5_giveOut_56 : decode cX5_giveOut 56 = .ok (.goto 5, 3) := by decide +kernel
theorem dX5_giveOut_59 : decode cX5_giveOut 59 = .ok (.bipush (-5), 2) := by decide +kernel
theorem dX5_giveOut_61 : decode cX5_giveOut 61 = .ok (.istore 5, 2) := by decide +kernel
theorem dX5_giveOut_63 : decode cX5_giveOut 63 = .ok (.iload 5, 2) := by decide +kernel
theorem dX5_giveOut_65 : decode cX5_giveOut 65 = .ok (.bipush (-5), 2) := by decide +kernel
theorem dX5_giveOut_67 : decode cX5_giveOut 67 = .ok (.if_icmp .eq 32, 3) := by decide +kernel
theorem dX5_giveOut_70 : decode cX5_giveOut 70 = .ok (.iload_n 1, 1) := by decide +kernel
theorem dX5_giveOut_71 : decode cX5_giveOut 71 = .ok (.ifCond .ne 14, 3) := by decide +kernel
theorem dX5_giveOut_74 : decode cX5_giveOut 74 = .ok (.aload_n 0, 1) := by decide +kernel
theorem dX5_giveOut_75 : decode cX5_giveOut 75 = .ok (.getfield 29, 3) := by decide +kernel
theorem dX5_giveOut_78 : decode cX5_giveOut 78 = .ok (.aload_n 0, 1) := by decide +kernel
theorem dX5_giveOut_79 : decode cX5_giveOut 79 = .ok (.getfield 10, 3) := by decide +kernel
theorem dX5_giveOut_82 : decode cX5_giveOut 82 = .ok (.invokevirtual 53, 3) := by decide +kernel
theorem dX5_giveOut_85 : decode cX5_giveOut 85 = .ok (.aload_n 0, 1) := by decide +kernel
theorem dX5_giveOut_86 : decode cX5_giveOut 86 = .ok (.getfield 10, 3) := by decide +kernel
theorem dX5_giveOut_89 : decode cX5_giveOut 89 = .ok (.iload 5, 2) := by decide +kernel
theorem dX5_giveOut_91 : decode cX5_giveOut 91 = .ok (.iload 4, 2) := by decide +kernel
theorem dX5_giveOut_93 : decode cX5_giveOut 93 = .ok (.invokevirtual 137, 3) := by decide +kernel
theorem dX5_giveOut_96 : decode cX5_giveOut 96 = .ok (.iinc 1 1, 3) := by decide +kernel
theorem dX5_giveOut_99 : decode cX5_giveOut 99 = .ok (.iinc 3 1, 3) := by decide +kernel
theorem dX5_giveOut_102 : decode cX5_giveOut 102 = .ok (.goto (-86), 3) := by decide +kernel
theorem dX5_giveOut_105 : decode cX5_giveOut 105 = .ok (.iload_n 1, 1) := by decide +kernel
theorem dX5_giveOut_106 : decode cX5_giveOut 106 = .ok (.ifCond .le 7, 3) := by decide +kernel
theorem dX5_giveOut_109 : decode cX5_giveOut 109 = .ok (.iload_n 1, 1) := by decide +kernel
theorem dX5_giveOut_110 : decode cX5_giveOut 110 = .ok (.goto 5, 3) := by decide +kernel
theorem dX5_giveOut_113 : decode cX5_giveOut 113 = .ok (.bipush (-5), 2) := by decide +kernel
theorem dX5_giveOut_115 : decode cX5_giveOut 115 = .ok (.ireturn, 1) := by decide +kernel
theorem dX5_swap_0 : decode cX5_swap 0 = .ok (.aload_n 0, 1) := by decide +kernel
theorem dX5_swap_1 : decode cX5_swap 1 = .ok (.getfield 10, 3) := by decide +kernel
theorem dX5_swap_4 : decode cX5_swap 4 = .ok (.aload_n 0, 1) := by decide +kernel
theorem dX5_swap_5 : decode cX5_swap 5 = .ok (.getfield 40, 3) := by decide +kernel
theorem dX5_swap_8 : decode cX5_swap 8 = .ok (.invokevirtual 148, 3) := by decide +kernel
theorem dX5_swap_11 : decode cX5_swap 11 = .ok (.istore_n 1, 1) := by decide +kernel
theorem dX5_swap_12 : decode cX5_swap 12 = .ok (.iconst 0, 1) := by decide +kernel
theorem dX5_swap_13 : decode cX5_swap 13 = .ok (.istore_n 2, 1) := by decide +kernel
theorem dX5_swap_14 : decode cX5_swap 14 = .ok (.iload_n 2, 1) := by decide +kernel
theorem dX5_swap_15 : decode cX5_swap 15 = .ok (.iload_n 1, 1) := by decide +kernel
theorem dX5_swap_16 : decode cX5_swap 16 = .ok (.if_icmp .ge 109, 3) := by decide +kernel
theorem dX5_swap_19 : decode cX5_swap 19 = .ok (.aload_n 0, 1) := by decide +kernel
theorem dX5_swap_20 : decode cX5_swap 20 = .ok (.getfield 40, 3) := by decide +kernel
theorem dX5_swap_23 : decode cX5_swap 23 = .ok (.iload_n 2, 1) := by decide +kernel
theorem dX5_swap_24 : decode cX5_swap 24 = .ok (.iaload, 1) := by decide +kernel
theorem dX5_swap_25 : decode cX5_swap 25 = .ok (.istore_n 3, 1) := by decide +kernel
theorem dX5_swap_26 : decode cX5_swap 26 = .ok (.aload_n 0, 1) := by decide +kernel
theorem dX5_swap_27 : decode cX5_swap 27 = .ok (.getfield 10, 3) := by decide +kernel
theorem dX5_swap_30 : decode cX5_swap 30 = .ok (.getfield 116, 3) := by decide +kernel
theorem dX5_swap_33 : decode cX5_swap 33 = .ok (.iload_n 3, 1) := by decide +kernel
theorem dX5_swap_34 : decode cX5_swap 34 = .ok (.aaload, 1) := by decide +kernel
theorem dX5_swap_35 : decode cX5_swap 35 = .ok (.getfield 120, 3) := by decide +kernel
theorem dX5_swap_38 : decode cX5_swap 38 = .ok (.bipush (-5), 2) := by decide +kernel
theorem dX5_swap_40 : decode cX5_swap 40 = .ok (.if_icmp .ne 20, 3) := by decide +kernel
theorem dX5_swap_43 : decode cX5_swap 43 = .ok (.aload_n 0, 1) := by decide +kernel
theorem dX5_swap_44 : decode cX5_swap 44 = .ok (.getfield 10, 3) := by decide +kernel
theorem dX5_swap_47 : decode cX5_swap 47 = .ok (.iload_n 3, 1) := by decide +kernel
theorem dX5_swap_48 : decode cX5_swap 48 = .ok (.invokevirtual 152, 3) := by decide +kernel
theorem dX5_swap_51 : decode cX5_swap 51 = .ok (.bipush (-5), 2) := by decide +kernel
theorem dX5_swap_53 : decode cX5_swap 53 = .ok (.if_icmp .ne 7, 3) := by decide +kernel
theorem dX5_swap_56 : decode cX5_swap 56 = .ok (.iconst 1, 1) := by decide +kernel
theorem dX5_swap_57 : decode cX5_swap 57 = .ok (.goto 4, 3) := by decide +kernel
theorem dX5_swap_60 : decode cX5_swap 60 = .ok (.iconst 0, 1) := by decide +kernel
theorem dX5_swap_61 : decode cX5_swap 61 = .ok (.istore 4, 2) := by decide +kernel
theorem dX5_swap_63 : decode cX5_swap 63 = .ok (.iload 4, 2) := by decide +kernel
theorem dX5_swap_65 : decode cX5_swap 65 = .ok (.ifCond .eq 14, 3) := by decide +kernel
theorem dX5_swap_68 : decode cX5_swap 68 = .ok (.aload_n 0, 1) := by decide +kernel
theorem dX5_swap_69 : decode cX5_swap 69 = .ok (.getfield 10, 3) := by decide +kernel
theorem dX5_swap_72 : decode cX5_swap 72 = .ok (.iload_n 3, 1) := by decide +kernel
theorem dX5_swap_73 : decode cX5_swap 73 = .ok (.invokevirtual 155, 3) := by decide +kernel
theorem dX5_swap_76 : decode cX5_swap 76 = .ok (.goto 5, 3) := by decide +kernel
theorem dX5_swap_79 : decode cX5_swap 79 = .ok (.bipush (-5), 2) := by decide +kernel
theorem dX5_swap_81 : decode cX5_swap 81 = .ok (.istore 5, 2) := by decide +kernel
theorem dX5_swap_83 : decode cX5_swap 83 = .ok (.iload 5, 2) := by decide +kernel
theorem dX5_swap_85 : decode cX5_swap 85 = .ok (.bipush (-5), 2) := by decide +kernel
theorem dX5_swap_87 : decode cX5_swap 87 = .ok (.if_icmp .eq 32, 3) := by decide +kernel
theorem dX5_swap_90 : decode cX5_swap 90 = .ok (.aload_n 0, 1) := by decide +kernel
theorem dX5_swap_91 : decode cX5_swap 91 = .ok (.getfield 29, 3) := by decide +kernel
theorem dX5_swap_94 : decode cX5_swap 94 = .ok (.aload_n 0, 1) := by decide +kernel
theorem dX5_swap_95 : decode cX5_swap 95 = .ok (.getfield 10, 3) := by decide +kernel
theorem dX5_swap_98 : decode cX5_swap 98 = .ok (.invokevirtual 53, 3) := by decide +kernel
theorem dX5_swap_101 : decode cX5_swap 101 = .ok (.aload_n 0, 1) := by decide +kernel
theorem dX5_swap_102 : decode cX5_swap 102 = .ok (.getfield 10, 3) := by decide +kernel
theorem dX5_swap_105 : decode cX5_swap 105 = .ok (.iload_n 3, 1) := by decide +kernel
theorem dX5_swap_106 : decode cX5_swap 106 = .ok (.iload 5, 2) := by decide +kernel
theorem dX5_swap_108 : decode cX5_swap 108 = .ok (.invokevirtual 158, 3) := by decide +kernel
theorem dX5_swap_111 : decode cX5_swap 111 = .ok (.bipush 100, 2) := by decide +kernel
theorem dX5_swap_113 : decode cX5_swap 113 = .ok (.iload_n 3, 1) := by decide +kernel
theorem dX5_swap_114 : decode cX5_swap 114 = .ok (.imul, 1) := by decide +kernel
theorem dX5_swap_115 : decode cX5_swap 115 = .ok (.iload 5, 2) := by decide +kernel
theorem dX5_swap_117 : decode cX5_swap 117 = .ok (.iadd, 1) := by decide +kernel
theorem dX5_swap_118 : decode cX5_swap 118 = .ok (.ireturn, 1) := by decide +kernel
theorem dX5_swap_119 : decode cX5_swap 119 = .ok (.iinc 2 1, 3) := by decide +kernel
theorem dX5_swap_122 : decode cX5_swap 122 = .ok (.goto (-108), 3) := by decide +kernel
theorem dX5_swap_125 : decode cX5_swap 125 = .ok (.bipush (-5), 2) := by decide +kernel
theorem dX5_swap_127 : decode cX5_swap 127 = .ok (.ireturn, 1) := by decide +kernel
theorem dX5_fuelRun_0 : decode cX5_fuelRun 0 = .ok (.sipush 300, 3) := by decide +kernel
theorem dX5_fuelRun_3 : decode cX5_fuelRun 3 = .ok (.aload_n 0, 1) := by decide +kernel
theorem dX5_fuelRun_4 : decode cX5_fuelRun 4 = .ok (.getfield 10, 3) := by decide +kernel
theorem dX5_fuelRun_7 : decode cX5_fuelRun 7 = .ok (.getfield 48, 3) := by decide +kernel
theorem dX5_fuelRun_10 : decode cX5_fuelRun 10 = .ok (.invokestatic 96, 3) := by decide +kernel
theorem dX5_fuelRun_13 : decode cX5_fuelRun 13 = .ok (.istore_n 1, 1) := by decide +kernel
theorem dX5_fuelRun_14 : decode cX5_fuelRun 14 = .ok (.iconst 0, 1) := by decide +kernel
theorem dX5_fuelRun_15 : decode cX5_fuelRun 15 = .ok (.istore_n 2, 1) := by decide +kernel
theorem dX5_fuelRun_16 : decode cX5_fuelRun 16 = .ok (.aload_n 0, 1) := by decide +kernel
theorem dX5_fuelRun_17 : decode cX5_fuelRun 17 = .ok (.getfield 10, 3) := by decide +kernel
theorem dX5_fuelRun_20 : decode cX5_fuelRun 20 = .ok (.aload_n 0, 1) := by decide +kernel
theorem dX5_fuelRun_21 : decode cX5_fuelRun 21 = .ok (.getfield 40, 3) := by decide +kernel
theorem dX5_fuelRun_24 : decode cX5_fuelRun 24 = .ok (.invokevirtual 161, 3) := by decide +kernel
theorem dX5_fuelRun_27 : decode cX5_fuelRun 27 = .ok (.istore_n 3, 1) := by decide +kernel
theorem dX5_fuelRun_28 : decode cX5_fuelRun 28 = .ok (.iconst 0, 1) := by decide +kernel
theorem dX5_fuelRun_29 : decode cX5_fuelRun 29 = .ok (.istore 4, 2) := by decide +kernel
theorem dX5_fuelRun_31 : decode cX5_fuelRun 31 = .ok (.iload 4, 2) := by decide +kernel
theorem dX5_fuelRun_33 : decode cX5_fuelRun 33 = .ok (.iload_n 3, 1) := by decide +kernel
theorem dX5_fuelRun_34 : decode cX5_fuelRun 34 = .ok (.if_icmp .ge 111, 3) := by decide +kernel
theorem dX5_fuelRun_37 : decode cX5_fuelRun 37 = .ok (.aload_n 0, 1) := by decide +kernel
theorem dX5_fuelRun_38 : decode cX5_fuelRun 38 = .ok (.getfield 10, 3) := by decide +kernel
theorem dX5_fuelRun_41 : decode cX5_fuelRun 41 = .ok (.aload_n 0, 1) := by decide +kernel
theorem dX5_fuelRun_42 : decode cX5_fuelRun 42 = .ok (.getfield 10, 3) := by decide +kernel
theorem dX5_fuelRun_45 : decode cX5_fuelRun 45 = .ok (.getfield 116, 3) := by decide +kernel
theorem dX5_fuelRun_48 : decode cX5_fuelRun 48 = .ok (.aload_n 0, 1) := by decide +kernel
theorem dX5_fuelRun_49 : decode cX5_fuelRun 49 = .ok (.getfield 40, 3) := by decide +kernel
theorem dX5_fuelRun_52 : decode cX5_fuelRun 52 = .ok (.iload 4, 2) := by decide +kernel
theorem dX5_fuelRun_54 : decode cX5_fuelRun 54 = .ok (.iaload, 1) := by decide +kernel
theorem dX5_fuelRun_55 : decode cX5_fuelRun 55 = .ok (.aaload, 1) := by decide +kernel
theorem dX5_fuelRun_56 : decode cX5_fuelRun 56 = .ok (.invokevirtual 164, 3) := by decide +kernel
theorem dX5_fuelRun_59 : decode cX5_fuelRun 59 = .ok (.astore 5, 2) := by decide +kernel
theorem dX5_fuelRun_61 : decode cX5_fuelRun 61 = .ok (.aload 5, 2) := by decide +kernel
theorem dX5_fuelRun_63 : decode cX5_fuelRun 63 = .ok (.ifnonnull 7, 3) := by decide +kernel
theorem dX5_fuelRun_66 : decode cX5_fuelRun 66 = .ok (.iconst 0, 1) := by decide +kernel
theorem dX5_fuelRun_67 : decode cX5_fuelRun 67 = .ok (.goto 14, 3) := by decide +kernel
theorem dX5_fuelRun_70 : decode cX5_fuelRun 70 = .ok (.aload 5, 2) := by decide +kernel
theorem dX5_fuelRun_72 : decode cX5_fuelRun 72 = .ok (.invokevirtual 92, 3) := by decide +kernel
theorem dX5_fuelRun_75 : decode cX5_fuelRun 75 = .ok (.iload_n 1, 1) := by decide +kernel
theorem dX5_fuelRun_76 : decode cX5_fuelRun 76 = .ok (.iload_n 2, 1) := by decide +kernel
theorem dX5_fuelRun_77 : decode cX5_fuelRun 77 = .ok (.isub, 1) := by decide +kernel
theorem dX5_fuelRun_78 : decode cX5_fuelRun 78 = .ok (.invokestatic 96, 3) := by decide +kernel
theorem dX5_fuelRun_81 : decode cX5_fuelRun 81 = .ok (.istore 6, 2) := by decide +kernel
theorem dX5_fuelRun_83 : decode cX5_fuelRun 83 = .ok (.aload 5, 2) := by decide +kernel
theorem dX5_fuelRun_85 : decode cX5_fuelRun 85 = .ok (.ifnull 54, 3) := by decide +kernel
theorem dX5_fuelRun_88 : decode cX5_fuelRun 88 = .ok (.iload 6, 2) := by decide +kernel
theorem dX5_fuelRun_90 : decode cX5_fuelRun 90 = .ok (.ifCond .le 49, 3) := by decide +kernel
theorem dX5_fuelRun_93 : decode cX5_fuelRun 93 = .ok (.iload_n 2, 1) := by decide +kernel
theorem dX5_fuelRun_94 : decode cX5_fuelRun 94 = .ok (.ifCond .ne 14, 3) := by decide +kernel
theorem dX5_fuelRun_97 : decode cX5_fuelRun 97 = .ok (.aload_n 0, 1) := by decide +kernel
theorem dX5_fuelRun_98 : decode cX5_fuelRun 98 = .ok (.getfield 29, 3) := by decide +kernel
theorem dX5_fuelRun_101 : decode cX5_fuelRun 101 = .ok (.aload_n 0, 1) := by decide +kernel
theorem dX5_fuelRun_102 : decode cX5_fuelRun 102 = .ok (.getfield 10, 3) := by decide +kernel
theorem dX5_fuelRun_105 : decode cX5_fuelRun 105 = .ok (.invokevirtual 53, 3) := by decide +kernel
theorem dX5_fuelRun_108 : decode cX5_fuelRun 108 = .ok (.aload 5, 2) := by decide +kernel
theorem dX5_fuelRun_110 : decode cX5_fuelRun 110 = .ok (.dup, 1) := by decide +kernel
theorem dX5_fuelRun_111 : decode cX5_fuelRun 111 = .ok (.getfield 100, 3) := by decide +kernel
theorem dX5_fuelRun_114 : decode cX5_fuelRun 114 = .ok (.iload 6, 2) := by decide +kernel
theorem dX5_fuelRun_116 : decode cX5_fuelRun 116 = .ok (.iadd, 1) := by decide +kernel
theorem dX5_fuelRun_117 : decode cX5_fuelRun 117 = .ok (.putfield 100, 3) := by decide +kernel
theorem dX5_fuelRun_120 : decode cX5_fuelRun 120 = .ok (.aload_n 0, 1) := by decide +kernel
theorem dX5_fuelRun_121 : decode cX5_fuelRun 121 = .ok (.getfield 10, 3) := by decide +kernel
theorem dX5_fuelRun_124 : decode cX5_fuelRun 124 = .ok (.dup, 1) := by decide +kernel
theorem dX5_fuelRun_125 : decode cX5_fuelRun 125 = .ok (.getfield 48, 3) := by decide +kernel
theorem dX5_fuelRun_128 : decode cX5_fuelRun 128 = .ok (.iload 6, 2) := by decide +kernel
theorem dX5_fuelRun_130 : decode cX5_fuelRun 130 = .ok (.isub, 1) := by decide +kernel
theorem dX5_fuelRun_131 : decode cX5_fuelRun 131 = .ok (.putfield 48, 3) := by decide +kernel
theorem dX5_fuelRun_134 : decode cX5_fuelRun 134 = .ok (.iload_n 2, 1) := by decide +kernel
theorem dX5_fuelRun_135 : decode cX5_fuelRun 135 = .ok (.iload 6, 2) := by decide +kernel
theorem dX5_fuelRun_137 : decode cX5_fuelRun 137 = .ok (.iadd, 1) := by decide +kernel
theorem dX5_fuelRun_138 : decode cX5_fuelRun 138 = .ok (.istore_n 2, 1) := by decide +kernel
theorem dX5_fuelRun_139 : decode cX5_fuelRun 139 = .ok (.iinc 4 1, 3) := by decide +kernel
theorem dX5_fuelRun_142 : decode cX5_fuelRun 142 = .ok (.goto (-111), 3) := by decide +kernel
theorem dX5_fuelRun_145 : decode cX5_fuelRun 145 = .ok (.iload_n 2, 1) := by decide +kernel
theorem dX5_fuelRun_146 : decode cX5_fuelRun 146 = .ok (.ifCond .le 7, 3) := by decide +kernel
theorem dX5_fuelRun_149 : decode cX5_fuelRun 149 = .ok (.iload_n 2, 1) := by decide +kernel
theorem dX5_fuelRun_150 : decode cX5_fuelRun 150 = .ok (.goto 5, 3) := by decide +kernel
theorem dX5_fuelRun_153 : decode cX5_fuelRun 153 = .ok (.bipush (-5), 2) := by decide +kernel
theorem dX5_fuelRun_155 : decode cX5_fuelRun 155 = .ok (.ireturn, 1) := by decide +kernel
theorem dX5_pass_0 : decode cX5_pass 0 = .ok (.iload_n 1, 1) := by decide +kernel
theorem dX5_pass_1 : decode cX5_pass 1 = .ok (.iconst 1, 1) := by decide +kernel
theorem dX5_pass_2 : decode cX5_pass 2 = .ok (.bipush 24, 2) := by decide +kernel
theorem dX5_pass_4 : decode cX5_pass 4 = .ok (.invokestatic 44, 3) := by decide +kernel
theorem dX5_pass_7 : decode cX5_pass 7 = .ok (.ifCond .ne 6, 3) := by decide +kernel
theorem dX5_pass_10 : decode cX5_pass 10 = .ok (.bipush (-2), 2) := by decide +kernel
theorem dX5_pass_12 : decode cX5_pass 12 = .ok (.ireturn, 1) := by decide +kernel
theorem dX5_pass_13 : decode cX5_pass 13 = .ok (.aload_n 0, 1) := by decide +kernel
theorem dX5_pass_14 : decode cX5_pass 14 = .ok (.getfield 10, 3) := by decide +kernel
theorem dX5_pass_17 : decode cX5_pass 17 = .ok (.getfield 125, 3) := by decide +kernel
theorem dX5_pass_20 : decode cX5_pass 20 = .ok (.iload_n 1, 1) := by decide +kernel
theorem dX5_pass_21 : decode cX5_pass 21 = .ok (.iadd, 1) := by decide +kernel
theorem dX5_pass_22 : decode cX5_pass 22 = .ok (.sipush 999, 3) := by decide +kernel
theorem dX5_pass_25 : decode cX5_pass 25 = .ok (.if_icmp .le 6, 3) := by decide +kernel
theorem dX5_pass_28 : decode cX5_pass 28 = .ok (.bipush (-4), 2) := by decide +kernel
theorem dX5_pass_30 : decode cX5_pass 30 = .ok (.ireturn, 1) := by decide +kernel
theorem dX5_pass_31 : decode cX5_pass 31 = .ok (.aload_n 0, 1) := by decide +kernel
theorem dX5_pass_32 : decode cX5_pass 32 = .ok (.getfield 29, 3) := by decide +kernel
theorem dX5_pass_35 : decode cX5_pass 35 = .ok (.aload_n 0, 1) := by decide +kernel
theorem dX5_pass_36 : decode cX5_pass 36 = .ok (.getfield 10, 3) := by decide +kernel
theorem dX5_pass_39 : decode cX5_pass 39 = .ok (.invokevirtual 53, 3) := by decide +kernel
theorem dX5_pass_42 : decode cX5_pass 42 = .ok (.aload_n 0, 1) := by decide +kernel
theorem dX5_pass_43 : decode cX5_pass 43 = .ok (.getfield 10, 3) := by decide +kernel
theorem dX5_pass_46 : decode cX5_pass 46 = .ok (.invokevirtual 168, 3) := by decide +kernel
theorem dX5_pass_49 : decode cX5_pass 49 = .ok (.istore_n 2, 1) := by decide +kernel
theorem dX5_pass_50 : decode cX5_pass 50 = .ok (.aload_n 0, 1) := by decide +kernel
theorem dX5_pass_51 : decode cX5_pass 51 = .ok (.getfield 10, 3) := by decide +kernel
theorem dX5_pass_54 : decode cX5_pass 54 = .ok (.iload_n 1, 1) := by decide +kernel
theorem dX5_pass_55 : decode cX5_pass 55 = .ok (.invokevirtual 171, 3) := by decide +kernel
theorem dX5_pass_58 : decode cX5_pass 58 = .ok (.aload_n 0, 1) := by decide +kernel
theorem dX5_pass_59 : decode cX5_pass 59 = .ok (.getfield 10, 3) := by decide +kernel
theorem dX5_pass_62 : decode cX5_pass 62 = .ok (.invokevirtual 168, 3) := by decide +kernel
theorem dX5_pass_65 : decode cX5_pass 65 = .ok (.iload_n 2, 1) := by decide +kernel
theorem dX5_pass_66 : decode cX5_pass 66 = .ok (.isub, 1) := by decide +kernel
theorem dX5_pass_67 : decode cX5_pass 67 = .ok (.ireturn, 1) := by decide +kernel
theorem dX5_type_0 : decode cX5_type 0 = .ok (.aload_n 0, 1) := by decide +kernel
theorem dX5_type_1 : decode cX5_type 1 = .ok (.getfield 36, 3) := by decide +kernel
theorem dX5_type_4 : decode cX5_type 4 = .ok (.iload_n 1, 1) := by decide +kernel
theorem dX5_type_5 : decode cX5_type 5 = .ok (.invokevirtual 174, 3) := by decide +kernel
theorem dX5_type_8 : decode cX5_type 8 = .ok (.ifCond .eq 13, 3) := by decide +kernel
theorem dX5_type_11 : decode cX5_type 11 = .ok (.aload_n 0, 1) := by decide +kernel
theorem dX5_type_12 : decode cX5_type 12 = .ok (.getfield 36, 3) := by decide +kernel
theorem dX5_type_15 : decode cX5_type 15 = .ok (.getfield 178, 3) := by decide +kernel
theorem dX5_type_18 : decode cX5_type 18 = .ok (.goto 5, 3) := by decide +kernel
theorem dX5_type_21 : decode cX5_type 21 = .ok (.bipush (-3), 2) := by decide +kernel
theorem dX5_type_23 : decode cX5_type 23 = .ok (.ireturn, 1) := by decide +kernel
theorem dX5_clearText_0 : decode cX5_clearText 0 = .ok (.aload_n 0, 1) := by decide +kernel
theorem dX5_clearText_1 : decode cX5_clearText 1 = .ok (.getfield 36, 3) := by decide +kernel
theorem dX5_clearText_4 : decode cX5_clearText 4 = .ok (.getfield 178, 3) := by decide +kernel
theorem dX5_clearText_7 : decode cX5_clearText 7 = .ok (.istore_n 1, 1) := by decide +kernel
theorem dX5_clearText_8 : decode cX5_clearText 8 = .ok (.aload_n 0, 1) := by decide +kernel
theorem dX5_clearText_9 : decode cX5_clearText 9 = .ok (.getfield 36, 3) := by decide +kernel
theorem dX5_clearText_12 : decode cX5_clearText 12 = .ok (.iconst 0, 1) := by decide +kernel
theorem dX5_clearText_13 : decode cX5_clearText 13 = .ok (.putfield 178, 3) := by decide +kernel
theorem dX5_clearText_16 : decode cX5_clearText 16 = .ok (.iload_n 1, 1) := by decide +kernel
theorem dX5_clearText_17 : decode cX5_clearText 17 = .ok (.ireturn, 1) := by decide +kernel
theorem dX5_readSites_0 : decode cX5_readSites 0 = .ok (.aload_n 0, 1) := by decide +kernel
theorem dX5_readSites_1 : decode cX5_readSites 1 = .ok (.getfield 36, 3) := by decide +kernel
theorem dX5_readSites_4 : decode cX5_readSites 4 = .ok (.invokevirtual 181, 3) := by decide +kernel
theorem dX5_readSites_7 : decode cX5_readSites 7 = .ok (.ifCond .ne 14, 3) := by decide +kernel
theorem dX5_readSites_10 : decode cX5_readSites 10 = .ok (.bipush (-100), 2) := by decide +kernel
theorem dX5_readSites_12 : decode cX5_readSites 12 = .ok (.aload_n 0, 1) := by decide +kernel
theorem dX5_readSites_13 : decode cX5_readSites 13 = .ok (.getfield 36, 3) := by decide +kernel
theorem dX5_readSites_16 : decode cX5_readSites 16 = .ok (.getfield 185, 3) := by decide +kernel
theorem dX5_readSites_19 : decode cX5_readSites 19 = .ok (.isub, 1) := by decide +kernel
theorem dX5_readSites_20 : decode cX5_readSites 20 = .ok (.ireturn, 1) := by decide +kernel
theorem dX5_readSites_21 : decode cX5_readSites 21 = .ok (.iconst 0, 1) := by decide +kernel
theorem dX5_readSites_22 : decode cX5_readSites 22 = .ok (.istore_n 1, 1) := by decide +kernel
theorem dX5_readSites_23 : decode cX5_readSites 23 = .ok (.iload_n 1, 1) := by decide +kernel
theorem dX5_readSites_24 : decode cX5_readSites 24 = .ok (.aload_n 0, 1) := by decide +kernel
theorem dX5_readSites_25 : decode cX5_readSites 25 = .ok (.getfield 36, 3) := by decide +kernel
theorem dX5_readSites_28 : decode cX5_readSites 28 = .ok (.getfield 188, 3) := by decide +kernel
theorem dX5_readSites_31 : decode cX5_readSites 31 = .ok (.if_icmp .ge 46, 3) := by decide +kernel
theorem dX5_readSites_34 : decode cX5_readSites 34 = .ok (.aload_n 0, 1) := by decide +kernel
theorem dX5_readSites_35 : decode cX5_readSites 35 = .ok (.getfield 10, 3) := by decide +kernel
theorem dX5_readSites_38 : decode cX5_readSites 38 = .ok (.aload_n 0, 1) := by decide +kernel
theorem dX5_readSites_39 : decode cX5_readSites 39 = .ok (.getfield 36, 3) := by decide +kernel
theorem dX5_readSites_42 : decode cX5_readSites 42 = .ok (.getfield 191, 3) := by decide +kernel
theorem dX5_readSites_45 : decode cX5_readSites 45 = .ok (.iload_n 1, 1) := by decide +kernel
theorem dX5_readSites_46 : decode cX5_readSites 46 = .ok (.aaload, 1) := by decide +kernel
theorem dX5_readSites_47 : decode cX5_readSites 47 = .ok (.getfield 194, 3) := by decide +kernel
theorem dX5_readSites_50 : decode cX5_readSites 50 = .ok (.aload_n 0, 1) := by decide +kernel
theorem dX5_readSites_51 : decode cX5_readSites 51 = .ok (.getfield 36, 3) := by decide +kernel
theorem dX5_readSites_54 : decode cX5_readSites 54 = .ok (.getfield 191, 3) := by decide +kernel
theorem dX5_readSites_57 : decode cX5_readSites 57 = .ok (.iload_n 1, 1) := by decide +kernel
theorem dX5_readSites_58 : decode cX5_readSites 58 = .ok (.aaload, 1) := by decide +kernel
theorem dX5_readSites_59 : decode cX5_readSites 59 = .ok (.getfield 128, 3) := by decide +kernel
theorem dX5_readSites_62 : decode cX5_readSites 62 = .ok (.invokevirtual 103, 3) := by decide +kernel
theorem dX5_readSites_65 : decode cX5_readSites 65 = .ok (.ifCond .ne 6, 3) := by decide +kernel
theorem dX5_readSites_68 : decode cX5_readSites 68 = .ok (.bipush (-2), 2) := by decide +kernel
theorem dX5_readSites_70 : decode cX5_readSites 70 = .ok (.ireturn, 1) := by decide +kernel
theorem dX5_readSites_71 : decode cX5_readSites 71 = .ok (.iinc 1 1, 3) := by decide +kernel
theorem dX5_readSites_74 : decode cX5_readSites 74 = .ok (.goto (-51), 3) := by decide +kernel
theorem dX5_readSites_77 : decode cX5_readSites 77 = .ok (.aload_n 0, 1) := by decide +kernel
theorem dX5_readSites_78 : decode cX5_readSites 78 = .ok (.getfield 10, 3) := by decide +kernel
theorem dX5_readSites_81 : decode cX5_readSites 81 = .ok (.getfield 107, 3) := by decide +kernel
theorem dX5_readSites_84 : decode cX5_readSites 84 = .ok (.aload_n 0, 1) := by decide +kernel
theorem dX5_readSites_85 : decode cX5_readSites 85 = .ok (.getfield 36, 3) := by decide +kernel
theorem dX5_readSites_88 : decode cX5_readSites 88 = .ok (.getfield 188, 3) := by decide +kernel
theorem dX5_readSites_91 : decode cX5_readSites 91 = .ok (.iadd, 1) := by decide +kernel
theorem dX5_readSites_92 : decode cX5_readSites 92 = .ok (.bipush 12, 2) := by decide +kernel
theorem dX5_readSites_94 : decode cX5_readSites 94 = .ok (.if_icmp .le 6, 3) := by decide +kernel
theorem dX5_readSites_97 : decode cX5_readSites 97 = .ok (.bipush (-3), 2) := by decide +kernel
theorem dX5_readSites_99 : decode cX5_readSites 99 = .ok (.ireturn, 1) := by decide +kernel
theorem dX5_readSites_100 : decode cX5_readSites 100 = .ok (.aload_n 0, 1) := by decide +kernel
theorem dX5_readSites_101 : decode cX5_readSites 101 = .ok (.getfield 29, 3) := by decide +kernel
theorem dX5_readSites_104 : decode cX5_readSites 104 = .ok (.aload_n 0, 1) := by decide +kernel
theorem dX5_readSites_105 : decode cX5_readSites 105 = .ok (.getfield 10, 3) := by decide +kernel
theorem dX5_readSites_108 : decode cX5_readSites 108 = .ok (.invokevirtual 53, 3) := by decide +kernel
theorem dX5_readSites_111 : decode cX5_readSites 111 = .ok (.iconst 0, 1) := by decide +kernel
theorem dX5_readSites_112 : decode cX5_readSites 112 = .ok (.istore_n 1, 1) := by decide +kernel
theorem dX5_readSites_113 : decode cX5_readSites 113 = .ok (.iload_n 1, 1) := by decide +kernel
theorem dX5_readSites_114 : decode cX5_readSites 114 = .ok (.aload_n 0, 1) := by decide +kernel
theorem dX5_readSites_115 : decode cX5_readSites 115 = .ok (.getfield 36, 3) := by decide +kernel
theorem dX5_readSites_118 : decode cX5_readSites 118 = .ok (.getfield 188, 3) := by decide +kernel
theorem dX5_readSites_121 : decode cX5_readSites 121 = .ok (.if_icmp .ge 43, 3) := by decide +kernel
theorem dX5_readSites_124 : decode cX5_readSites 124 = .ok (.aload_n 0, 1) := by decide +kernel
theorem dX5_readSites_125 : decode cX5_readSites 125 = .ok (.getfield 36, 3) := by decide +kernel
theorem dX5_readSites_128 : decode cX5_readSites 128 = .ok (.getfield 191, 3) := by decide +kernel
theorem dX5_readSites_131 : decode cX5_readSites 131 = .ok (.iload_n 1, 1) := by decide +kernel
theorem dX5_readSites_132 : decode cX5_readSites 132 = .ok (.aaload, 1) := by decide +kernel
theorem dX5_readSites_133 : decode cX5_readSites 133 = .ok (.astore_n 2, 1) := by decide +kernel
theorem dX5_readSites_134 : decode cX5_readSites 134 = .ok (.aload_n 0, 1) := by decide +kernel
theorem dX5_readSites_135 : decode cX5_readSites 135 = .ok (.getfield 10, 3) := by decide +kernel
theorem dX5_readSites_138 : decode cX5_readSites 138 = .ok (.aload_n 2, 1) := by decide +kernel
theorem dX5_readSites_139 : decode cX5_readSites 139 = .ok (.getfield 197, 3) := by decide +kernel
theorem dX5_readSites_142 : decode cX5_readSites 142 = .ok (.aload_n 2, 1) := by decide +kernel
theorem dX5_readSites_143 : decode cX5_readSites 143 = .ok (.getfield 134, 3) := by decide +kernel
theorem dX5_readSites_146 : decode cX5_readSites 146 = .ok (.aload_n 2, 1) := by decide +kernel
theorem dX5_readSites_147 : decode cX5_readSites 147 = .ok (.getfield 194, 3) := by decide +kernel
theorem dX5_readSites_150 : decode cX5_readSites 150 = .ok (.aload_n 2, 1) := by decide +kernel
theorem dX5_readSites_151 : decode cX5_readSites 151 = .ok (.getfield 128, 3) := by decide +kernel
theorem dX5_readSites_154 : decode cX5_readSites 154 = .ok (.invokevirtual 110, 3) := by decide +kernel
theorem dX5_readSites_157 : decode cX5_readSites 157 = .ok (.pop, 1) := by decide +kernel
theorem dX5_readSites_158 : decode cX5_readSites 158 = .ok (.iinc 1 1, 3) := by decide +kernel
theorem dX5_readSites_161 : decode cX5_readSites 161 = .ok (.goto (-48), 3) := by decide +kernel
theorem dX5_readSites_164 : decode cX5_readSites 164 = .ok (.aload_n 0, 1) := by decide +kernel
theorem dX5_readSites_165 : decode cX5_readSites 165 = .ok (.getfield 36, 3) := by decide +kernel
theorem dX5_readSites_168 : decode cX5_readSites 168 = .ok (.getfield 188, 3) := by decide +kernel
theorem dX5_readSites_171 : decode cX5_readSites 171 = .ok (.ireturn, 1) := by decide +kernel
theorem dX5_undo_0 : decode cX5_undo 0 = .ok (.aload_n 0, 1) := by decide +kernel
theorem dX5_undo_1 : decode cX5_undo 1 = .ok (.getfield 29, 3) := by decide +kernel
theorem dX5_undo_4 : decode cX5_undo 4 = .ok (.aload_n 0, 1) := by decide +kernel
theorem dX5_undo_5 : decode cX5_undo 5 = .ok (.getfield 10, 3) := by decide +kernel
theorem dX5_undo_8 : decode cX5_undo 8 = .ok (.invokevirtual 200, 3) := by decide +kernel
theorem dX5_undo_11 : decode cX5_undo 11 = .ok (.ifCond .eq 13, 3) := by decide +kernel
theorem dX5_undo_14 : decode cX5_undo 14 = .ok (.aload_n 0, 1) := by decide +kernel
theorem dX5_undo_15 : decode cX5_undo 15 = .ok (.getfield 29, 3) := by decide +kernel
theorem dX5_undo_18 : decode cX5_undo 18 = .ok (.getfield 204, 3) := by decide +kernel
theorem dX5_undo_21 : decode cX5_undo 21 = .ok (.goto 5, 3) := by decide +kernel
theorem dX5_undo_24 : decode cX5_undo 24 = .ok (.bipush (-5), 2) := by decide +kernel
theorem dX5_undo_26 : decode cX5_undo 26 = .ok (.ireturn, 1) := by decide +kernel
theorem dX5_keep_0 : decode cX5_keep 0 = .ok (.aload_n 0, 1) := by decide +kernel
theorem dX5_keep_1 : decode cX5_keep 1 = .ok (.getfield 19, 3) := by decide +kernel
theorem dX5_keep_4 : decode cX5_keep 4 = .ok (.aload_n 0, 1) := by decide +kernel
theorem dX5_keep_5 : decode cX5_keep 5 = .ok (.getfield 10, 3) := by decide +kernel
theorem dX5_keep_8 : decode cX5_keep 8 = .ok (.invokevirtual 207, 3) := by decide +kernel
theorem dX5_keep_11 : decode cX5_keep 11 = .ok (.aload_n 0, 1) := by decide +kernel
theorem dX5_keep_12 : decode cX5_keep 12 = .ok (.iconst 1, 1) := by decide +kernel
theorem dX5_keep_13 : decode cX5_keep 13 = .ok (.putfield 22, 3) := by decide +kernel
theorem dX5_keep_16 : decode cX5_keep 16 = .ok (.aload_n 0, 1) := by decide +kernel
theorem dX5_keep_17 : decode cX5_keep 17 = .ok (.getfield 10, 3) := by decide +kernel
theorem dX5_keep_20 : decode cX5_keep 20 = .ok (.getfield 125, 3) := by decide +kernel
theorem dX5_keep_23 : decode cX5_keep 23 = .ok (.ireturn, 1) := by decide +kernel
theorem dX5_restore_0 : decode cX5_restore 0 = .ok (.aload_n 0, 1) := by decide +kernel
theorem dX5_restore_1 : decode cX5_restore 1 = .ok (.getfield 22, 3) := by decide +kernel
theorem dX5_restore_4 : decode cX5_restore 4 = .ok (.ifCond .ne 6, 3) := by decide +kernel
theorem dX5_restore_7 : decode cX5_restore 7 = .ok (.bipush (-5), 2) := by decide +kernel
theorem dX5_restore_9 : decode cX5_restore 9 = .ok (.ireturn, 1) := by decide +kernel
theorem dX5_restore_10 : decode cX5_restore 10 = .ok (.aload_n 0, 1) := by decide +kernel
theorem dX5_restore_11 : decode cX5_restore 11 = .ok (.getfield 29, 3) := by decide +kernel
theorem dX5_restore_14 : decode cX5_restore 14 = .ok (.aload_n 0, 1) := by decide +kernel
theorem dX5_restore_15 : decode cX5_restore 15 = .ok (.getfield 10, 3) := by decide +kernel
theorem dX5_restore_18 : decode cX5_restore 18 = .ok (.invokevirtual 53, 3) := by decide +kernel
theorem dX5_restore_21 : decode cX5_restore 21 = .ok (.aload_n 0, 1) := by decide +kernel
theorem dX5_restore_22 : decode cX5_restore 22 = .ok (.getfield 10, 3) := by decide +kernel
theorem dX5_restore_25 : decode cX5_restore 25 = .ok (.aload_n 0, 1) := by decide +kernel
theorem dX5_restore_26 : decode cX5_restore 26 = .ok (.getfield 19, 3) := by decide +kernel
theorem dX5_restore_29 : decode cX5_restore 29 = .ok (.invokevirtual 207, 3) := by decide +kernel
theorem dX5_restore_32 : decode cX5_restore 32 = .ok (.aload_n 0, 1) := by decide +kernel
theorem dX5_restore_33 : decode cX5_restore 33 = .ok (.getfield 10, 3) := by decide +kernel
theorem dX5_restore_36 : decode cX5_restore 36 = .ok (.getfield 125, 3) := by decide +kernel
theorem dX5_restore_39 : decode cX5_restore 39 = .ok (.ireturn, 1) := by decide +kernel
theorem dX5_set_0 : decode cX5_set 0 = .ok (.aload_n 0, 1) := by decide +kernel
theorem dX5_set_1 : decode cX5_set 1 = .ok (.getfield 10, 3) := by decide +kernel
theorem dX5_set_4 : decode cX5_set 4 = .ok (.iload_n 1, 1) := by decide +kernel
theorem dX5_set_5 : decode cX5_set 5 = .ok (.invokevirtual 79, 3) := by decide +kernel
theorem dX5_set_8 : decode cX5_set 8 = .ok (.ifCond .ne 5, 3) := by decide +kernel
theorem dX5_set_11 : decode cX5_set 11 = .ok (.iconst (-1), 1) := by decide +kernel
theorem dX5_set_12 : decode cX5_set 12 = .ok (.ireturn, 1) := by decide +kernel
theorem dX5_set_13 : decode cX5_set 13 = .ok (.aload_n 0, 1) := by decide +kernel
theorem dX5_set_14 : decode cX5_set 14 = .ok (.getfield 10, 3) := by decide +kernel
theorem dX5_set_17 : decode cX5_set 17 = .ok (.getfield 83, 3) := by decide +kernel
theorem dX5_set_20 : decode cX5_set 20 = .ok (.iload_n 1, 1) := by decide +kernel
theorem dX5_set_21 : decode cX5_set 21 = .ok (.aaload, 1) := by decide +kernel
theorem dX5_set_22 : decode cX5_set 22 = .ok (.astore_n 3, 1) := by decide +kernel
theorem dX5_set_23 : decode cX5_set 23 = .ok (.iload_n 2, 1) := by decide +kernel
theorem dX5_set_24 : decode cX5_set 24 = .ok (.tableswitch 114 0 9 #[56, 61, 66, 71, 76, 81, 86, 99, 104, 109], 56) := by decide +kernel
theorem dX5_set_80 : decode cX5_set 80 = .ok (.aload_n 3, 1) := by decide +kernel
theorem dX5_set_81 : decode cX5_set 81 = .ok (.getfield 131, 3) := by decide +kernel
theorem dX5_set_84 : decode cX5_set 84 = .ok (.ireturn, 1) := by decide +kernel
theorem dX5_set_85 : decode cX5_set 85 = .ok (.aload_n 3, 1) := by decide +kernel
theorem dX5_set_86 : decode cX5_set 86 = .ok (.getfield 210, 3) := by decide +kernel
theorem dX5_set_89 : decode cX5_set 89 = .ok (.ireturn, 1) := by decide +kernel
theorem dX5_set_90 : decode cX5_set 90 = .ok (.aload_n 3, 1) := by decide +kernel
theorem dX5_set_91 : decode cX5_set 91 = .ok (.getfield 213, 3) := by decide +kernel
theorem dX5_set_94 : decode cX5_set 94 = .ok (.ireturn, 1) := by decide +kernel
theorem dX5_set_95 : decode cX5_set 95 = .ok (.aload_n 3, 1) := by decide +kernel
theorem dX5_set_96 : decode cX5_set 96 = .ok (.getfield 216, 3) := by decide +kernel
theorem dX5_set_99 : decode cX5_set 99 = .ok (.ireturn, 1) := by decide +kernel
theorem dX5_set_100 : decode cX5_set 100 = .ok (.aload_n 3, 1) := by decide +kernel
theorem dX5_set_101 : decode cX5_set 101 = .ok (.getfield 100, 3) := by decide +kernel
theorem dX5_set_104 : decode cX5_set 104 = .ok (.ireturn, 1) := by decide +kernel
theorem dX5_set_105 : decode cX5_set 105 = .ok (.aload_n 3, 1) := by decide +kernel
theorem dX5_set_106 : decode cX5_set 106 = .ok (.getfield 87, 3) := by decide +kernel
theorem dX5_set_109 : decode cX5_set 109 = .ok (.ireturn, 1) := by decide +kernel
theorem dX5_set_110 : decode cX5_set 110 = .ok (.aload_n 3, 1) := by decide +kernel
theorem dX5_set_111 : decode cX5_set 111 = .ok (.getfield 219, 3) := by decide +kernel
theorem dX5_set_114 : decode cX5_set 114 = .ok (.ifCond .eq 7, 3) := by decide +kernel
theorem dX5_set_117 : decode cX5_set 117 = .ok (.iconst 1, 1) := by decide +kernel
theorem dX5_set_118 : decode cX5_set 118 = .ok (.goto 4, 3) := by decide +kernel
theorem dX5_set_121 : decode cX5_set 121 = .ok (.iconst 0, 1) := by decide +kernel
theorem dX5_set_122 : decode cX5_set 122 = .ok (.ireturn, 1) := by decide +kernel
theorem dX5_set_123 : decode cX5_set 123 = .ok (.aload_n 3, 1) := by decide +kernel
theorem dX5_set_124 : decode cX5_set 124 = .ok (.getfield 222, 3) := by decide +kernel
theorem dX5_set_127 : decode cX5_set 127 = .ok (.ireturn, 1) := by decide +kernel
theorem dX5_set_128 : decode cX5_set 128 = .ok (.aload_n 3, 1) := by decide +kernel
theorem dX5_set_129 : decode cX5_set 129 = .ok (.getfield 225, 3) := by decide +kernel
theorem dX5_set_132 : decode cX5_set 132 = .ok (.ireturn, 1) := by decide +kernel
theorem dX5_set_133 : decode cX5_set 133 = .ok (.aload_n 3, 1) := by decide +kernel
theorem dX5_set_134 : decode cX5_set 134 = .ok (.invokevirtual 228, 3) := by decide +kernel
theorem dX5_set_137 : decode cX5_set 137 = .ok (.ireturn, 1) := by decide +kernel
theorem dX5_set_138 : decode cX5_set 138 = .ok (.bipush (-2), 2) := by decide +kernel
theorem dX5_set_140 : decode cX5_set 140 = .ok (.ireturn, 1) := by decide +kernel
theorem dX5_site_0 : decode cX5_site 0 = .ok (.aload_n 0, 1) := by decide +kernel
theorem dX5_site_1 : decode cX5_site 1 = .ok (.getfield 10, 3) := by decide +kernel
theorem dX5_site_4 : decode cX5_site 4 = .ok (.iload_n 1, 1) := by decide +kernel
theorem dX5_site_5 : decode cX5_site 5 = .ok (.invokevirtual 113, 3) := by decide +kernel
theorem dX5_site_8 : decode cX5_site 8 = .ok (.ifCond .ne 5, 3) := by decide +kernel
theorem dX5_site_11 : decode cX5_site 11 = .ok (.iconst (-1), 1) := by decide +kernel
theorem dX5_site_12 : decode cX5_site 12 = .ok (.ireturn, 1) := by decide +kernel
theorem dX5_site_13 : decode cX5_site 13 = .ok (.aload_n 0, 1) := by decide +kernel
theorem dX5_site_14 : decode cX5_site 14 = .ok (.getfield 10, 3) := by decide +kernel
theorem dX5_site_17 : decode cX5_site 17 = .ok (.getfield 116, 3) := by decide +kernel
theorem dX5_site_20 : decode cX5_site 20 = .ok (.iload_n 1, 1) := by decide +kernel
theorem dX5_site_21 : decode cX5_site 21 = .ok (.aaload, 1) := by decide +kernel
theorem dX5_site_22 : decode cX5_site 22 = .ok (.astore_n 3, 1) := by decide +kernel
theorem dX5_site_23 : decode cX5_site 23 = .ok (.iload_n 2, 1) := by decide +kernel
theorem dX5_site_24 : decode cX5_site 24 = .ok (.tableswitch 121 0 9 #[56, 61, 66, 71, 76, 81, 86, 91, 96, 101], 56) := by decide +kernel
theorem dX5_site_80 : decode cX5_site 80 = .ok (.aload_n 3, 1) := by decide +kernel
theorem dX5_site_81 : decode cX5_site 81 = .ok (.getfield 197, 3) := by decide +kernel
theorem dX5_site_84 : decode cX5_site 84 = .ok (.ireturn, 1) := by decide +kernel
theorem dX5_site_85 : decode cX5_site 85 = .ok (.aload_n 3, 1) := by decide +kernel
theorem dX5_site_86 : decode cX5_site 86 = .ok (.getfield 134, 3) := by decide +kernel
theorem dX5_site_89 : decode cX5_site 89 = .ok (.ireturn, 1) := by decide +kernel
theorem dX5_site_90 : decode cX5_site 90 = .ok (.aload_n 3, 1) := by decide +kernel
theorem dX5_site_91 : decode cX5_site 91 = .ok (.getfield 194, 3) := by decide +kernel
theorem dX5_site_94 : decode cX5_site 94 = .ok (.ireturn, 1) := by decide +kernel
theorem dX5_site_95 : decode cX5_site 95 = .ok (.aload_n 3, 1) := by decide +kernel
theorem dX5_site_96 : decode cX5_site 96 = .ok (.getfield 128, 3) := by decide +kernel
theorem dX5_site_99 : decode cX5_site 99 = .ok (.ireturn, 1) := by decide +kernel
theorem dX5_site_100 : decode cX5_site 100 = .ok (.aload_n 3, 1) := by decide +kernel
theorem dX5_site_101 : decode cX5_site 101 = .ok (.getfield 120, 3) := by decide +kernel
theorem dX5_site_104 : decode cX5_site 104 = .ok (.ireturn, 1) := by decide +kernel
theorem dX5_site_105 : decode cX5_site 105 = .ok (.aload_n 3, 1) := by decide +kernel
theorem dX5_site_106 : decode cX5_site 106 = .ok (.getfield 231, 3) := by decide +kernel
theorem dX5_site_109 : decode cX5_site 109 = .ok (.ireturn, 1) := by decide +kernel
theorem dX5_site_110 : decode cX5_site 110 = .ok (.aload_n 3, 1) := by decide +kernel
theorem dX5_site_111 : decode cX5_site 111 = .ok (.getfield 234, 3) := by decide +kernel
theorem dX5_site_114 : decode cX5_site 114 = .ok (.ireturn, 1) := by decide +kernel
theorem dX5_site_115 : decode cX5_site 115 = .ok (.aload_n 3, 1) := by decide +kernel
theorem dX5_site_116 : decode cX5_site 116 = .ok (.getfield 237, 3) := by decide +kernel
theorem dX5_site_119 : decode cX5_site 119 = .ok (.ireturn, 1) := by decide +kernel
theorem dX5_site_120 : decode cX5_site 120 = .ok (.aload_n 3, 1) := by decide +kernel
theorem dX5_site_121 : decode cX5_site 121 = .ok (.getfield 240, 3) := by decide +kernel
theorem dX5_site_124 : decode cX5_site 124 = .ok (.ireturn, 1) := by decide +kernel
theorem dX5_site_125 : decode cX5_site 125 = .ok (.aload_n 3, 1) := by decide +kernel
theorem dX5_site_126 : decode cX5_site 126 = .ok (.aload_n 0, 1) := by decide +kernel
theorem dX5_site_127 : decode cX5_site 127 = .ok (.getfield 10, 3) := by decide +kernel
theorem dX5_site_130 : decode cX5_site 130 = .ok (.getfield 125, 3) := by decide +kernel
theorem dX5_site_133 : decode cX5_site 133 = .ok (.invokevirtual 243, 3) := by decide +kernel
theorem dX5_site_136 : decode cX5_site 136 = .ok (.ifCond .eq 7, 3) := by decide +kernel
theorem dX5_site_139 : decode cX5_site 139 = .ok (.iconst 1, 1) := by decide +kernel
theorem dX5_site_140 : decode cX5_site 140 = .ok (.goto 4, 3) := by decide +kernel
theorem dX5_site_143 : decode cX5_site 143 = .ok (.iconst 0, 1) := by decide +kernel
theorem dX5_site_144 : decode cX5_site 144 = .ok (.ireturn, 1) := by decide +kernel
theorem dX5_site_145 : decode cX5_site 145 = .ok (.bipush (-2), 2) := by decide +kernel
theorem dX5_site_147 : decode cX5_site 147 = .ok (.ireturn, 1) := by decide +kernel
theorem dX5_why_0 : decode cX5_why 0 = .ok (.aload_n 0, 1) := by decide +kernel
theorem dX5_why_1 : decode cX5_why 1 = .ok (.getfield 10, 3) := by decide +kernel
theorem dX5_why_4 : decode cX5_why 4 = .ok (.iload_n 1, 1) := by decide +kernel
theorem dX5_why_5 : decode cX5_why 5 = .ok (.invokevirtual 113, 3) := by decide +kernel
theorem dX5_why_8 : decode cX5_why 8 = .ok (.ifCond .ne 5, 3) := by decide +kernel
theorem dX5_why_11 : decode cX5_why 11 = .ok (.iconst (-1), 1) := by decide +kernel
theorem dX5_why_12 : decode cX5_why 12 = .ok (.ireturn, 1) := by decide +kernel
theorem dX5_why_13 : decode cX5_why 13 = .ok (.aload_n 0, 1) := by decide +kernel
theorem dX5_why_14 : decode cX5_why 14 = .ok (.getfield 10, 3) := by decide +kernel
theorem dX5_why_17 : decode cX5_why 17 = .ok (.getfield 116, 3) := by decide +kernel
theorem dX5_why_20 : decode cX5_why 20 = .ok (.iload_n 1, 1) := by decide +kernel
theorem dX5_why_21 : decode cX5_why 21 = .ok (.aaload, 1) := by decide +kernel
theorem dX5_why_22 : decode cX5_why 22 = .ok (.astore_n 2, 1) := by decide +kernel
theorem dX5_why_23 : decode cX5_why 23 = .ok (.aload_n 2, 1) := by decide +kernel
theorem dX5_why_24 : decode cX5_why 24 = .ok (.aload_n 0, 1) := by decide +kernel
theorem dX5_why_25 : decode cX5_why 25 = .ok (.getfield 10, 3) := by decide +kernel
theorem dX5_why_28 : decode cX5_why 28 = .ok (.getfield 125, 3) := by decide +kernel
theorem dX5_why_31 : decode cX5_why 31 = .ok (.invokevirtual 243, 3) := by decide +kernel
theorem dX5_why_34 : decode cX5_why 34 = .ok (.ifCond .eq 14, 3) := by decide +kernel
theorem dX5_why_37 : decode cX5_why 37 = .ok (.aload_n 0, 1) := by decide +kernel
theorem dX5_why_38 : decode cX5_why 38 = .ok (.getfield 10, 3) := by decide +kernel
theorem dX5_why_41 : decode cX5_why 41 = .ok (.aload_n 2, 1) := by decide +kernel
theorem dX5_why_42 : decode cX5_why 42 = .ok (.invokevirtual 246, 3) := by decide +kernel
theorem dX5_why_45 : decode cX5_why 45 = .ok (.goto 5, 3) := by decide +kernel
theorem dX5_why_48 : decode cX5_why 48 = .ok (.bipush (-5), 2) := by decide +kernel
theorem dX5_why_50 : decode cX5_why 50 = .ok (.ireturn, 1) := by decide +kernel
theorem dX5_needy_0 : decode cX5_needy 0 = .ok (.iload_n 1, 1) := by decide +kernel
theorem dX5_needy_1 : decode cX5_needy 1 = .ok (.ifCond .ge 6, 3) := by decide +kernel
theorem dX5_needy_4 : decode cX5_needy 4 = .ok (.bipush (-2), 2) := by decide +kernel
theorem dX5_needy_6 : decode cX5_needy 6 = .ok (.ireturn, 1) := by decide +kernel
theorem dX5_needy_7 : decode cX5_needy 7 = .ok (.aload_n 0, 1) := by decide +kernel
theorem dX5_needy_8 : decode cX5_needy 8 = .ok (.getfield 10, 3) := by decide +kernel
theorem dX5_needy_11 : decode cX5_needy 11 = .ok (.aload_n 0, 1) := by decide +kernel
theorem dX5_needy_12 : decode cX5_needy 12 = .ok (.getfield 40, 3) := by decide +kernel
theorem dX5_needy_15 : decode cX5_needy 15 = .ok (.invokevirtual 148, 3) := by decide +kernel
theorem dX5_needy_18 : decode cX5_needy 18 = .ok (.istore_n 2, 1) := by decide +kernel
theorem dX5_needy_19 : decode cX5_needy 19 = .ok (.iload_n 1, 1) := by decide +kernel
theorem dX5_needy_20 : decode cX5_needy 20 = .ok (.iload_n 2, 1) := by decide +kernel
theorem dX5_needy_21 : decode cX5_needy 21 = .ok (.if_icmp .ge 12, 3) := by decide +kernel
theorem dX5_needy_24 : decode cX5_needy 24 = .ok (.aload_n 0, 1) := by decide +kernel
theorem dX5_needy_25 : decode cX5_needy 25 = .ok (.getfield 40, 3) := by decide +kernel
theorem dX5_needy_28 : decode cX5_needy 28 = .ok (.iload_n 1, 1) := by decide +kernel
theorem dX5_needy_29 : decode cX5_needy 29 = .ok (.iaload, 1) := by decide +kernel
theorem dX5_needy_30 : decode cX5_needy 30 = .ok (.goto 5, 3) := by decide +kernel
theorem dX5_needy_33 : decode cX5_needy 33 = .ok (.bipush (-5), 2) := by decide +kernel
theorem dX5_needy_35 : decode cX5_needy 35 = .ok (.ireturn, 1) := by decide +kernel
theorem dX5_thirsty_0 : decode cX5_thirsty 0 = .ok (.iload_n 1, 1) := by decide +kernel
theorem dX5_thirsty_1 : decode cX5_thirsty 1 = .ok (.ifCond .ge 6, 3) := by decide +kernel
theorem dX5_thirsty_4 : decode cX5_thirsty 4 = .ok (.bipush (-2), 2) := by decide +kernel
theorem dX5_thirsty_6 : decode cX5_thirsty 6 = .ok (.ireturn, 1) := by decide +kernel
theorem dX5_thirsty_7 : decode cX5_thirsty 7 = .ok (.aload_n 0, 1) := by decide +kernel
theorem dX5_thirsty_8 : decode cX5_thirsty 8 = .ok (.getfield 10, 3) := by decide +kernel
theorem dX5_thirsty_11 : decode cX5_thirsty 11 = .ok (.aload_n 0, 1) := by decide +kernel
theorem dX5_thirsty_12 : decode cX5_thirsty 12 = .ok (.getfield 40, 3) := by decide +kernel
theorem dX5_thirsty_15 : decode cX5_thirsty 15 = .ok (.invokevirtual 161, 3) := by decide +kernel
theorem dX5_thirsty_18 : decode cX5_thirsty 18 = .ok (.istore_n 2, 1) := by decide +kernel
theorem dX5_thirsty_19 : decode cX5_thirsty 19 = .ok (.iload_n 1, 1) := by decide +kernel
theorem dX5_thirsty_20 : decode cX5_thirsty 20 = .ok (.iload_n 2, 1) := by decide +kernel
theorem dX5_thirsty_21 : decode cX5_thirsty 21 = .ok (.if_icmp .ge 12, 3) := by decide +kernel
theorem dX5_thirsty_24 : decode cX5_thirsty 24 = .ok (.aload_n 0, 1) := by decide +kernel
theorem dX5_thirsty_25 : decode cX5_thirsty 25 = .ok (.getfield 40, 3) := by decide +kernel
theorem dX5_thirsty_28 : decode cX5_thirsty 28 = .ok (.iload_n 1, 1) := by decide +kernel
theorem dX5_thirsty_29 : decode cX5_thirsty 29 = .ok (.iaload, 1) := by decide +kernel
theorem dX5_thirsty_30 : decode cX5_thirsty 30 = .ok (.goto 5, 3) := by decide +kernel
theorem dX5_thirsty_33 : decode cX5_thirsty 33 = .ok (.bipush (-5), 2) := by decide +kernel
theorem dX5_thirsty_35 : decode cX5_thirsty 35 = .ok (.ireturn, 1) := by decide +kernel
theorem dX5_forecast_0 : decode cX5_forecast 0 = .ok (.iload_n 1, 1) := by decide +kernel
theorem dX5_forecast_1 : decode cX5_forecast 1 = .ok (.iconst 1, 1) := by decide +kernel
theorem dX5_forecast_2 : decode cX5_forecast 2 = .ok (.bipush 24, 2) := by decide +kernel
theorem dX5_forecast_4 : decode cX5_forecast 4 = .ok (.invokestatic 44, 3) := by decide +kernel
theorem dX5_forecast_7 : decode cX5_forecast 7 = .ok (.ifCond .eq 12, 3) := by decide +kernel
theorem dX5_forecast_10 : decode cX5_forecast 10 = .ok (.iload_n 2, 1) := by decide +kernel
theorem dX5_forecast_11 : decode cX5_forecast 11 = .ok (.iconst 0, 1) := by decide +kernel
theorem dX5_forecast_12 : decode cX5_forecast 12 = .ok (.iconst 3, 1) := by decide +kernel
theorem dX5_forecast_13 : decode cX5_forecast 13 = .ok (.invokestatic 44, 3) := by decide +kernel
theorem dX5_forecast_16 : decode cX5_forecast 16 = .ok (.ifCond .ne 6, 3) := by decide +kernel
theorem dX5_forecast_19 : decode cX5_forecast 19 = .ok (.bipush (-2), 2) := by decide +kernel
theorem dX5_forecast_21 : decode cX5_forecast 21 = .ok (.ireturn, 1) := by decide +kernel
theorem dX5_forecast_22 : decode cX5_forecast 22 = .ok (.aload_n 0, 1) := by decide +kernel
theorem dX5_forecast_23 : decode cX5_forecast 23 = .ok (.getfield 10, 3) := by decide +kernel
theorem dX5_forecast_26 : decode cX5_forecast 26 = .ok (.getfield 125, 3) := by decide +kernel
theorem dX5_forecast_29 : decode cX5_forecast 29 = .ok (.iload_n 1, 1) := by decide +kernel
theorem dX5_forecast_30 : decode cX5_forecast 30 = .ok (.iadd, 1) := by decide +kernel
theorem dX5_forecast_31 : decode cX5_forecast 31 = .ok (.sipush 999, 3) := by decide +kernel
theorem dX5_forecast_34 : decode cX5_forecast 34 = .ok (.if_icmp .le 6, 3) := by decide +kernel
theorem dX5_forecast_37 : decode cX5_forecast 37 = .ok (.bipush (-4), 2) := by decide +kernel
theorem dX5_forecast_39 : decode cX5_forecast 39 = .ok (.ireturn, 1) := by decide +kernel
theorem dX5_forecast_40 : decode cX5_forecast 40 = .ok (.aload_n 0, 1) := by decide +kernel
theorem dX5_forecast_41 : decode cX5_forecast 41 = .ok (.getfield 16, 3) := by decide +kernel
theorem dX5_forecast_44 : decode cX5_forecast 44 = .ok (.aload_n 0, 1) := by decide +kernel
theorem dX5_forecast_45 : decode cX5_forecast 45 = .ok (.getfield 10, 3) := by decide +kernel
theorem dX5_forecast_48 : decode cX5_forecast 48 = .ok (.invokevirtual 207, 3) := by decide +kernel
theorem dX5_forecast_51 : decode cX5_forecast 51 = .ok (.aload_n 0, 1) := by decide +kernel
theorem dX5_forecast_52 : decode cX5_forecast 52 = .ok (.getfield 16, 3) := by decide +kernel
theorem dX5_forecast_55 : decode cX5_forecast 55 = .ok (.iload_n 1, 1) := by decide +kernel
theorem dX5_forecast_56 : decode cX5_forecast 56 = .ok (.invokevirtual 171, 3) := by decide +kernel
theorem dX5_forecast_59 : decode cX5_forecast 59 = .ok (.iload_n 2, 1) := by decide +kernel
theorem dX5_forecast_60 : decode cX5_forecast 60 = .ok (.tableswitch 76 0 2 #[28, 44, 60], 28) := by decide +kernel
theorem dX5_forecast_88 : decode cX5_forecast 88 = .ok (.aload_n 0, 1) := by decide +kernel
theorem dX5_forecast_89 : decode cX5_forecast 89 = .ok (.getfield 16, 3) := by decide +kernel
theorem dX5_forecast_92 : decode cX5_forecast 92 = .ok (.invokevirtual 168, 3) := by decide +kernel
theorem dX5_forecast_95 : decode cX5_forecast 95 = .ok (.aload_n 0, 1) := by decide +kernel
theorem dX5_forecast_96 : decode cX5_forecast 96 = .ok (.getfield 10, 3) := by decide +kernel
theorem dX5_forecast_99 : decode cX5_forecast 99 = .ok (.invokevirtual 168, 3) := by decide +kernel
theorem dX5_forecast_102 : decode cX5_forecast 102 = .ok (.isub, 1) := by decide +kernel
theorem dX5_forecast_103 : decode cX5_forecast 103 = .ok (.ireturn, 1) := by decide +kernel
theorem dX5_forecast_104 : decode cX5_forecast 104 = .ok (.aload_n 0, 1) := by decide +kernel
theorem dX5_forecast_105 : decode cX5_forecast 105 = .ok (.getfield 16, 3) := by decide +kernel
theorem dX5_forecast_108 : decode cX5_forecast 108 = .ok (.invokevirtual 250, 3) := by decide +kernel
theorem dX5_forecast_111 : decode cX5_forecast 111 = .ok (.aload_n 0, 1) := by decide +kernel
theorem dX5_forecast_112 : decode cX5_forecast 112 = .ok (.getfield 10, 3) := by decide +kernel
theorem dX5_forecast_115 : decode cX5_forecast 115 = .ok (.invokevirtual 250, 3) := by decide +kernel
theorem dX5_forecast_118 : decode cX5_forecast 118 = .ok (.isub, 1) := by decide +kernel
theorem dX5_forecast_119 : decode cX5_forecast 119 = .ok (.ireturn, 1) := by decide +kernel
theorem dX5_forecast_120 : decode cX5_forecast 120 = .ok (.aload_n 0, 1) := by decide +kernel
theorem dX5_forecast_121 : decode cX5_forecast 121 = .ok (.getfield 16, 3) := by decide +kernel
theorem dX5_forecast_124 : decode cX5_forecast 124 = .ok (.getfield 253, 3) := by decide +kernel
theorem dX5_forecast_127 : decode cX5_forecast 127 = .ok (.aload_n 0, 1) := by decide +kernel
theorem dX5_forecast_128 : decode cX5_forecast 128 = .ok (.getfield 10, 3) := by decide +kernel
theorem dX5_forecast_131 : decode cX5_forecast 131 = .ok (.getfield 253, 3) := by decide +kernel
theorem dX5_forecast_134 : decode cX5_forecast 134 = .ok (.isub, 1) := by decide +kernel
theorem dX5_forecast_135 : decode cX5_forecast 135 = .ok (.ireturn, 1) := by decide +kernel
theorem dX5_forecast_136 : decode cX5_forecast 136 = .ok (.aload_n 0, 1) := by decide +kernel
theorem dX5_forecast_137 : decode cX5_forecast 137 = .ok (.getfield 16, 3) := by decide +kernel
theorem dX5_forecast_140 : decode cX5_forecast 140 = .ok (.aload_n 0, 1) := by decide +kernel
theorem dX5_forecast_141 : decode cX5_forecast 141 = .ok (.getfield 10, 3) := by decide +kernel
theorem dX5_forecast_144 : decode cX5_forecast 144 = .ok (.invokevirtual 256, 3) := by decide +kernel
theorem dX5_forecast_147 : decode cX5_forecast 147 = .ok (.ireturn, 1) := by decide +kernel
theorem dX5_count_0 : decode cX5_count 0 = .ok (.iload_n 1, 1) := by decide +kernel
theorem dX5_count_1 : decode cX5_count 1 = .ok (.tableswitch 226 0 16 #[83, 91, 102, 110, 118, 126, 134, 142, 150, 158, 166, 178, 186, 194, 202, 210, 218], 83) := by decide +kernel
theorem dX5_count_84 : decode cX5_count 84 = .ok (.aload_n 0, 1) := by decide +kernel
theorem dX5_count_85 : decode cX5_count 85 = .ok (.getfield 10, 3) := by decide +kernel
theorem dX5_count_88 : decode cX5_count 88 = .ok (.getfield 125, 3) := by decide +kernel
theorem dX5_count_91 : decode cX5_count 91 = .ok (.ireturn, 1) := by decide +kernel
theorem dX5_count_92 : decode cX5_count 92 = .ok (.aload_n 0, 1) := by decide +kernel
theorem dX5_count_93 : decode cX5_count 93 = .ok (.getfield 10, 3) := by decide +kernel
theorem dX5_count_96 : decode cX5_count 96 = .ok (.getfield 60, 3) := by decide +kernel
theorem dX5_count_99 : decode cX5_count 99 = .ok (.bipush 100, 2) := by decide +kernel
theorem dX5_count_101 : decode cX5_count 101 = .ok (.iadd, 1) := by decide +kernel
theorem dX5_count_102 : decode cX5_count 102 = .ok (.ireturn, 1) := by decide +kernel
theorem dX5_count_103 : decode cX5_count 103 = .ok (.aload_n 0, 1) := by decide +kernel
theorem dX5_count_104 : decode cX5_count 104 = .ok (.getfield 10, 3) := by decide +kernel
theorem dX5_count_107 : decode cX5_count 107 = .ok (.getfield 69, 3) := by decide +kernel
theorem dX5_count_110 : decode cX5_count 110 = .ok (.ireturn, 1) := by decide +kernel
theorem dX5_count_111 : decode cX5_count 111 = .ok (.aload_n 0, 1) := by decide +kernel
theorem dX5_count_112 : decode cX5_count 112 = .ok (.getfield 10, 3) := by decide +kernel
theorem dX5_count_115 : decode cX5_count 115 = .ok (.getfield 48, 3) := by decide +kernel
theorem dX5_count_118 : decode cX5_count 118 = .ok (.ireturn, 1) := by decide +kernel
theorem dX5_count_119 : decode cX5_count 119 = .ok (.aload_n 0, 1) := by decide +kernel
theorem dX5_count_120 : decode cX5_count 120 = .ok (.getfield 10, 3) := by decide +kernel
theorem dX5_count_123 : decode cX5_count 123 = .ok (.invokevirtual 260, 3) := by decide +kernel
theorem dX5_count_126 : decode cX5_count 126 = .ok (.ireturn, 1) := by decide +kernel
theorem dX5_count_127 : decode cX5_count 127 = .ok (.aload_n 0, 1) := by decide +kernel
theorem dX5_count_128 : decode cX5_count 128 = .ok (.getfield 10, 3) := by decide +kernel
theorem dX5_count_131 : decode cX5_count 131 = .ok (.getfield 253, 3) := by decide +kernel
theorem dX5_count_134 : decode cX5_count 134 = .ok (.ireturn, 1) := by decide +kernel
theorem dX5_count_135 : decode cX5_count 135 = .ok (.aload_n 0, 1) := by decide +kernel
theorem dX5_count_136 : decode cX5_count 136 = .ok (.getfield 10, 3) := by decide +kernel
theorem dX5_count_139 : decode cX5_count 139 = .ok (.getfield 57, 3) := by decide +kernel
theorem dX5_count_142 : decode cX5_count 142 = .ok (.ireturn, 1) := by decide +kernel
theorem dX5_count_143 : decode cX5_count 143 = .ok (.aload_n 0, 1) := by decide +kernel
theorem dX5_count_144 : decode cX5_count 144 = .ok (.getfield 10, 3) := by decide +kernel
theorem dX5_count_147 : decode cX5_count 147 = .ok (.getfield 72, 3) := by decide +kernel
theorem dX5_count_150 : decode cX5_count 150 = .ok (.ireturn, 1) := by decide +kernel
theorem dX5_count_151 : decode cX5_count 151 = .ok (.aload_n 0, 1) := by decide +kernel
theorem dX5_count_152 : decode cX5_count 152 = .ok (.getfield 10, 3) := by decide +kernel
theorem dX5_count_155 : decode cX5_count 155 = .ok (.invokevirtual 141, 3) := by decide +kernel
theorem dX5_count_158 : decode cX5_count 158 = .ok (.ireturn, 1) := by decide +kernel
theorem dX5_count_159 : decode cX5_count 159 = .ok (.aload_n 0, 1) := by decide +kernel
theorem dX5_count_160 : decode cX5_count 160 = .ok (.getfield 10, 3) := by decide +kernel
theorem dX5_count_163 : decode cX5_count 163 = .ok (.getfield 107, 3) := by decide +kernel
theorem dX5_count_166 : decode cX5_count 166 = .ok (.ireturn, 1) := by decide +kernel
theorem dX5_count_167 : decode cX5_count 167 = .ok (.aload_n 0, 1) := by decide +kernel
theorem dX5_count_168 : decode cX5_count 168 = .ok (.getfield 10, 3) := by decide +kernel
theorem dX5_count_171 : decode cX5_count 171 = .ok (.aload_n 0, 1) := by decide +kernel
theorem dX5_count_172 : decode cX5_count 172 = .ok (.getfield 40, 3) := by decide +kernel
theorem dX5_count_175 : decode cX5_count 175 = .ok (.invokevirtual 148, 3) := by decide +kernel
theorem dX5_count_178 : decode cX5_count 178 = .ok (.ireturn, 1) := by decide +kernel
theorem dX5_count_179 : decode cX5_count 179 = .ok (.aload_n 0, 1) := by decide +kernel
theorem dX5_count_180 : decode cX5_count 180 = .ok (.getfield 10, 3) := by decide +kernel
theorem dX5_count_183 : decode cX5_count 183 = .ok (.invokevirtual 168, 3) := by decide +kernel
theorem dX5_count_186 : decode cX5_count 186 = .ok (.ireturn, 1) := by decide +kernel
theorem dX5_count_187 : decode cX5_count 187 = .ok (.aload_n 0, 1) := by decide +kernel
theorem dX5_count_188 : decode cX5_count 188 = .ok (.getfield 10, 3) := by decide +kernel
theorem dX5_count_191 : decode cX5_count 191 = .ok (.invokevirtual 250, 3) := by decide +kernel
theorem dX5_count_194 : decode cX5_count 194 = .ok (.ireturn, 1) := by decide +kernel
theorem dX5_count_195 : decode cX5_count 195 = .ok (.aload_n 0, 1) := by decide +kernel
theorem dX5_count_196 : decode cX5_count 196 = .ok (.getfield 10, 3) := by decide +kernel
theorem dX5_count_199 : decode cX5_count 199 = .ok (.invokevirtual 263, 3) := by decide +kernel
theorem dX5_count_202 : decode cX5_count 202 = .ok (.ireturn, 1) := by decide +kernel
theorem dX5_count_203 : decode cX5_count 203 = .ok (.aload_n 0, 1) := by decide +kernel
theorem dX5_count_204 : decode cX5_count 204 = .ok (.getfield 10, 3) := by decide +kernel
theorem dX5_count_207 : decode cX5_count 207 = .ok (.getfield 266, 3) := by decide +kernel
theorem dX5_count_210 : decode cX5_count 210 = .ok (.ireturn, 1) := by decide +kernel
theorem dX5_count_211 : decode cX5_count 211 = .ok (.aload_n 0, 1) := by decide +kernel
theorem dX5_count_212 : decode cX5_count 212 = .ok (.getfield 29, 3) := by decide +kernel
theorem dX5_count_215 : decode cX5_count 215 = .ok (.getfield 204, 3) := by decide +kernel
theorem dX5_count_218 : decode cX5_count 218 = .ok (.ireturn, 1) := by decide +kernel
theorem dX5_count_219 : decode cX5_count 219 = .ok (.aload_n 0, 1) := by decide +kernel
theorem dX5_count_220 : decode cX5_count 220 = .ok (.getfield 36, 3) := by decide +kernel
theorem dX5_count_223 : decode cX5_count 223 = .ok (.getfield 178, 3) := by decide +kernel
theorem dX5_count_226 : decode cX5_count 226 = .ok (.ireturn, 1) := by decide +kernel
theorem dX5_count_227 : decode cX5_count 227 = .ok (.bipush (-2), 2) := by decide +kernel
theorem dX5_count_229 : decode cX5_count 229 = .ok (.ireturn, 1) := by decide +kernel
theorem dX5_isWithin_0 : decode cX5_isWithin 0 = .ok (.iload_n 0, 1) := by decide +kernel
theorem dX5_isWithin_1 : decode cX5_isWithin 1 = .ok (.iload_n 1, 1) := by decide +kernel
theorem dX5_isWithin_2 : decode cX5_isWithin 2 = .ok (.if_icmp .lt 12, 3) := by decide +kernel
theorem dX5_isWithin_5 : decode cX5_isWithin 5 = .ok (.iload_n 0, 1) := by decide +kernel
theorem dX5_isWithin_6 : decode cX5_isWithin 6 = .ok (.iload_n 2, 1) := by decide +kernel
theorem dX5_isWithin_7 : decode cX5_isWithin 7 = .ok (.if_icmp .gt 7, 3) := by decide +kernel
theorem dX5_isWithin_10 : decode cX5_isWithin 10 = .ok (.iconst 1, 1) := by decide +kernel
theorem dX5_isWithin_11 : decode cX5_isWithin 11 = .ok (.goto 4, 3) := by decide +kernel
theorem dX5_isWithin_14 : decode cX5_isWithin 14 = .ok (.iconst 0, 1) := by decide +kernel
theorem dX5_isWithin_15 : decode cX5_isWithin 15 = .ok (.ireturn, 1) := by decide +kernel
end
section
theorem dX6_init_0 : decode cX6_init 0 = .ok (.aload_n 0, 1) := by decide +kernel
theorem dX6_init_1 : decode cX6_init 1 = .ok (.invokespecial 1, 3) := by decide +kernel
theorem dX6_init_4 : decode cX6_init 4 = .ok (.aload_n 0, 1) := by decide +kernel
theorem dX6_init_5 : decode cX6_init 5 = .ok (.sipush 236, 3) := by decide +kernel
theorem dX6_init_8 : decode cX6_init 8 = .ok (.newarray .int, 2) := by decide +kernel
theorem dX6_init_10 : decode cX6_init 10 = .ok (.putfield 7, 3) := by decide +kernel
theorem dX6_init_13 : decode cX6_init 13 = .ok (.aload_n 0, 1) := by decide +kernel
theorem dX6_init_14 : decode cX6_init 14 = .ok (.sipush 1180, 3) := by decide +kernel
theorem dX6_init_17 : decode cX6_init 17 = .ok (.newarray .int, 2) := by decide +kernel
theorem dX6_init_19 : decode cX6_init 19 = .ok (.putfield 13, 3) := by decide +kernel
theorem dX6_init_22 : decode cX6_init 22 = .ok (.aload_n 0, 1) := by decide +kernel
theorem dX6_init_23 : decode cX6_init 23 = .ok (.sipush 236, 3) := by decide +kernel
theorem dX6_init_26 : decode cX6_init 26 = .ok (.newarray .int, 2) := by decide +kernel
theorem dX6_init_28 : decode cX6_init 28 = .ok (.putfield 16, 3) := by decide +kernel
theorem dX6_init_31 : decode cX6_init 31 = .ok (.aload_n 0, 1) := by decide +kernel
theorem dX6_init_32 : decode cX6_init 32 = .ok (.sipush 236, 3) := by decide +kernel
theorem dX6_init_35 : decode cX6_init 35 = .ok (.newarray .int, 2) := by decide +kernel
theorem dX6_init_37 : decode cX6_init 37 = .ok (.putfield 19, 3) := by decide +kernel
theorem dX6_init_40 : decode cX6_init 40 = .ok (.aload_n 0, 1) := by decide +kernel
theorem dX6_init_41 : decode cX6_init 41 = .ok (.bipush 12, 2) := by decide +kernel
theorem dX6_init_43 : decode cX6_init 43 = .ok (.newarray .int, 2) := by decide +kernel
theorem dX6_init_45 : decode cX6_init 45 = .ok (.putfield 22, 3) := by decide +kernel
theorem dX6_init_48 : decode cX6_init 48 = .ok (.aload_n 0, 1) := by decide +kernel
theorem dX6_init_49 : decode cX6_init 49 = .ok (.bipush 60, 2) := by decide +kernel
theorem dX6_init_51 : decode cX6_init 51 = .ok (.newarray .char, 2) := by decide +kernel
theorem dX6_init_53 : decode cX6_init 53 = .ok (.putfield 25, 3) := by decide +kernel
theorem dX6_init_56 : decode cX6_init 56 = .ok (.aload_n 0, 1) := by decide +kernel
theorem dX6_init_57 : decode cX6_init 57 = .ok (.bipush 36, 2) := by decide +kernel
theorem dX6_init_59 : decode cX6_init 59 = .ok (.newarray .int, 2) := by decide +kernel
theorem dX6_init_61 : decode cX6_init 61 = .ok (.putfield 29, 3) := by decide +kernel
theorem dX6_init_64 : decode cX6_init 64 = .ok (.aload_n 0, 1) := by decide +kernel
theorem dX6_init_65 : decode cX6_init 65 = .ok (.getfield 7, 3) := by decide +kernel
theorem dX6_init_68 : decode cX6_init 68 = .ok (.iconst 1, 1) := by decide +kernel
theorem dX6_init_69 : decode cX6_init 69 = .ok (.iconst 5, 1) := by decide +kernel
theorem dX6_init_70 : decode cX6_init 70 = .ok (.iastore, 1) := by decide +kernel
theorem dX6_init_71 : decode cX6_init 71 = .ok (.aload_n 0, 1) := by decide +kernel
theorem dX6_init_72 : decode cX6_init 72 = .ok (.getfield 7, 3) := by decide +kernel
theorem dX6_init_75 : decode cX6_init 75 = .ok (.iconst 2, 1) := by decide +kernel
theorem dX6_init_76 : decode cX6_init 76 = .ok (.bipush 10, 2) := by decide +kernel
theorem dX6_init_78 : decode cX6_init 78 = .ok (.iastore, 1) := by decide +kernel
theorem dX6_init_79 : decode cX6_init 79 = .ok (.return_, 1) := by decide +kernel
theorem dX6_in_0 : decode cX6_in 0 = .ok (.iload_n 0, 1) := by decide +kernel
theorem dX6_in_1 : decode cX6_in 1 = .ok (.iload_n 1, 1) := by decide +kernel
theorem dX6_in_2 : decode cX6_in 2 = .ok (.if_icmp .lt 12, 3) := by decide +kernel
theorem dX6_in_5 : decode cX6_in 5 = .ok (.iload_n 0, 1) := by decide +kernel
theorem dX6_in_6 : decode cX6_in 6 = .ok (.iload_n 2, 1) := by decide +kernel
theorem dX6_in_7 : decode cX6_in 7 = .ok (.if_icmp .gt 7, 3) := by decide +kernel
theorem dX6_in_10 : decode cX6_in 10 = .ok (.iconst 1, 1) := by decide +kernel
theorem dX6_in_11 : decode cX6_in 11 = .ok (.goto 4, 3) := by decide +kernel
theorem dX6_in_14 : decode cX6_in 14 = .ok (.iconst 0, 1) := by decide +kernel
theorem dX6_in_15 : decode cX6_in 15 = .ok (.ireturn, 1) := by decide +kernel
theorem dX6_least_0 : decode cX6_least 0 = .ok (.iload_n 0, 1) := by decide +kernel
theorem dX6_least_1 : decode cX6_least 1 = .ok (.iload_n 1, 1) := by decide +kernel
theorem dX6_least_2 : decode cX6_least 2 = .ok (.if_icmp .ge 7, 3) := by decide +kernel
theorem dX6_least_5 : decode cX6_least 5 = .ok (.iload_n 0, 1) := by decide +kernel
theorem dX6_least_6 : decode cX6_least 6 = .ok (.goto 4, 3) := by decide +kernel
theorem dX6_least_9 : decode cX6_least 9 = .ok (.iload_n 1, 1) := by decide +kernel
theorem dX6_least_10 : decode cX6_least 10 = .ok (.ireturn, 1) := by decide +kernel
theorem dX6_record_0 : decode cX6_record 0 = .ok (.aload_n 0, 1) := by decide +kernel
theorem dX6_record_1 : decode cX6_record 1 = .ok (.getfield 32, 3) := by decide +kernel
theorem dX6_record_4 : decode cX6_record 4 = .ok (.iconst 5, 1) := by decide +kernel
theorem dX6_record_5 : decode cX6_record 5 = .ok (.if_icmp .ne 44, 3) := by decide +kernel
theorem dX6_record_8 : decode cX6_record 8 = .ok (.iconst 0, 1) := by decide +kernel
theorem dX6_record_9 : decode cX6_record 9 = .ok (.istore_n 1, 1) := by decide +kernel
theorem dX6_record_10 : decode cX6_record 10 = .ok (.iload_n 1, 1) := by decide +kernel
theorem dX6_record_11 : decode cX6_record 11 = .ok (.sipush 944, 3) := by decide +kernel
theorem dX6_record_14 : decode cX6_record 14 = .ok (.if_icmp .ge 25, 3) := by decide +kernel
theorem dX6_record_17 : decode cX6_record 17 = .ok (.aload_n 0, 1) := by decide +kernel
theorem dX6_record_18 : decode cX6_record 18 = .ok (.getfield 13, 3) := by decide +kernel
theorem dX6_record_21 : decode cX6_record 21 = .ok (.iload_n 1, 1) := by decide +kernel
theorem dX6_record_22 : decode cX6_record 22 = .ok (.aload_n 0, 1) := by decide +kernel
theorem dX6_record_23 : decode cX6_record 23 = .ok (.getfield 13, 3) := by decide +kernel
theorem dX6_record_26 : decode cX6_record 26 = .ok (.iload_n 1, 1) := by decide +kernel
theorem dX6_record_27 : decode cX6_record 27 = .ok (.sipush 236, 3) := by decide +kernel
theorem dX6_record_30 : decode cX6_record 30 = .ok (.iadd, 1) := by decide +kernel
theorem dX6_record_31 : decode cX6_record 31 = .ok (.iaload, 1) := by decide +kernel
theorem dX6_record_32 : decode cX6_record 32 = .ok (.iastore, 1) := by decide +kernel
theorem dX6_record_33 : decode cX6_record 33 = .ok (.iinc 1 1, 3) := by decide +kernel
theorem dX6_record_36 : decode cX6_record 36 = .ok (.goto (-26), 3) := by decide +kernel
theorem dX6_record_39 : decode cX6_record 39 = .ok (.aload_n 0, 1) := by decide +kernel
theorem dX6_record_40 : decode cX6_record 40 = .ok (.dup, 1) := by decide +kernel
theorem dX6_record_41 : decode cX6_record 41 = .ok (.getfield 32, 3) := by decide +kernel
theorem dX6_record_44 : decode cX6_record 44 = .ok (.iconst 1, 1) := by decide +kernel
theorem dX6_record_45 : decode cX6_record 45 = .ok (.isub, 1) := by decide +kernel
theorem dX6_record_46 : decode cX6_record 46 = .ok (.putfield 32, 3) := by decide +kernel
theorem dX6_record_49 : decode cX6_record 49 = .ok (.iconst 0, 1) := by decide +kernel
theorem dX6_record_50 : decode cX6_record 50 = .ok (.istore_n 1, 1) := by decide +kernel
theorem dX6_record_51 : decode cX6_record 51 = .ok (.iload_n 1, 1) := by decide +kernel
theorem dX6_record_52 : decode cX6_record 52 = .ok (.sipush 236, 3) := by decide +kernel
theorem dX6_record_55 : decode cX6_record 55 = .ok (.if_icmp .ge 30, 3) := by decide +kernel
theorem dX6_record_58 : decode cX6_record 58 = .ok (.aload_n 0, 1) := by decide +kernel
theorem dX6_record_59 : decode cX6_record 59 = .ok (.getfield 13, 3) := by decide +kernel
theorem dX6_record_62 : decode cX6_record 62 = .ok (.sipush 236, 3) := by decide +kernel
theorem dX6_record_65 : decode cX6_record 65 = .ok (.aload_n 0, 1) := by decide +kernel
theorem dX6_record_66 : decode cX6_record 66 = .ok (.getfield 32, 3) := by decide +kernel
theorem dX6_record_69 : decode cX6_record 69 = .ok (.imul, 1) := by decide +kernel
theorem dX6_record_70 : decode cX6_record 70 = .ok (.iload_n 1, 1) := by decide +kernel
theorem dX6_record_71 : decode cX6_record 71 = .ok (.iadd, 1) := by decide +kernel
theorem dX6_record_72 : decode cX6_record 72 = .ok (.aload_n 0, 1) := by decide +kernel
theorem dX6_record_73 : decode cX6_record 73 = .ok (.getfield 7, 3) := by decide +kernel
theorem dX6_record_76 : decode cX6_record 76 = .ok (.iload_n 1, 1) := by decide +kernel
theorem dX6_record_77 : decode cX6_record 77 = .ok (.iaload, 1) := by decide +kernel
theorem dX6_record_78 : decode cX6_record 78 = .ok (.iastore, 1) := by decide +kernel
theorem dX6_record_79 : decode cX6_record 79 = .ok (.iinc 1 1, 3) := by decide +kernel
theorem dX6_record_82 : decode cX6_record 82 = .ok (.goto (-31), 3) := by decide +kernel
theorem dX6_record_85 : decode cX6_record 85 = .ok (.aload_n 0, 1) := by decide +kernel
theorem dX6_record_86 : decode cX6_record 86 = .ok (.dup, 1) := by decide +kernel
theorem dX6_record_87 : decode cX6_record 87 = .ok (.getfield 32, 3) := by decide +kernel
theorem dX6_record_90 : decode cX6_record 90 = .ok (.iconst 1, 1) := by decide +kernel
theorem dX6_record_91 : decode cX6_record 91 = .ok (.iadd, 1) := by decide +kernel
theorem dX6_record_92 : decode cX6_record 92 = .ok (.putfield 32, 3) := by decide +kernel
theorem dX6_record_95 : decode cX6_record 95 = .ok (.return_, 1) := by decide +kernel
theorem dX6_noSet_0 : decode cX6_noSet 0 = .ok (.iload_n 1, 1) := by decide +kernel
theorem dX6_noSet_1 : decode cX6_noSet 1 = .ok (.iconst 0, 1) := by decide +kernel
theorem dX6_noSet_2 : decode cX6_noSet 2 = .ok (.aload_n 0, 1) := by decide +kernel
theorem dX6_noSet_3 : decode cX6_noSet 3 = .ok (.getfield 7, 3) := by decide +kernel
theorem dX6_noSet_6 : decode cX6_noSet 6 = .ok (.bipush 6, 2) := by decide +kernel
theorem dX6_noSet_8 : decode cX6_noSet 8 = .ok (.iaload, 1) := by decide +kernel
theorem dX6_noSet_9 : decode cX6_noSet 9 = .ok (.iconst 1, 1) := by decide +kernel
theorem dX6_noSet_10 : decode cX6_noSet 10 = .ok (.isub, 1) := by decide +kernel
theorem dX6_noSet_11 : decode cX6_noSet 11 = .ok (.invokestatic 36, 3) := by decide +kernel
theorem dX6_noSet_14 : decode cX6_noSet 14 = .ok (.ifCond .ne 7, 3) := by decide +kernel
theorem dX6_noSet_17 : decode cX6_noSet 17 = .ok (.iconst 1, 1) := by decide +kernel
theorem dX6_noSet_18 : decode cX6_noSet 18 = .ok (.goto 4, 3) := by decide +kernel
theorem dX6_noSet_21 : decode cX6_noSet 21 = .ok (.iconst 0, 1) := by decide +kernel
theorem dX6_noSet_22 : decode cX6_noSet 22 = .ok (.ireturn, 1) := by decide +kernel
theorem dX6_noSite_0 : decode cX6_noSite 0 = .ok (.iload_n 1, 1) := by decide +kernel
theorem dX6_noSite_1 : decode cX6_noSite 1 = .ok (.iconst 0, 1) := by decide +kernel
theorem dX6_noSite_2 : decode cX6_noSite 2 = .ok (.aload_n 0, 1) := by decide +kernel
theorem dX6_noSite_3 : decode cX6_noSite 3 = .ok (.getfield 7, 3) := by decide +kernel
theorem dX6_noSite_6 : decode cX6_noSite 6 = .ok (.bipush 7, 2) := by decide +kernel
theorem dX6_noSite_8 : decode cX6_noSite 8 = .ok (.iaload, 1) := by decide +kernel
theorem dX6_noSite_9 : decode cX6_noSite 9 = .ok (.iconst 1, 1) := by decide +kernel
theorem dX6_noSite_10 : decode cX6_noSite 10 = .ok (.isub, 1) := by decide +kernel
theorem dX6_noSite_11 : decode cX6_noSite 11 = .ok (.invokestatic 36, 3) := by decide +kernel
theorem dX6_noSite_14 : decode cX6_noSite 14 = .ok (.ifCond .ne 7, 3) := by decide +kernel
theorem dX6_noSite_17 : decode cX6_noSite 17 = .ok (.iconst 1, 1) := by decide +kernel
theorem dX6_noSite_18 : decode cX6_noSite 18 = .ok (.goto 4, 3) := by decide +kernel
theorem dX6_noSite_21 : decode cX6_noSite 21 = .ok (.iconst 0, 1) := by decide +kernel
theorem dX6_noSite_22 : decode cX6_noSite 22 = .ok (.ireturn, 1) := by decide +kernel
theorem dX6_ofSet_0 : decode cX6_ofSet 0 = .ok (.aload_n 0, 1) := by decide +kernel
theorem dX6_ofSet_1 : decode cX6_ofSet 1 = .ok (.getfield 7, 3) := by decide +kernel
theorem dX6_ofSet_4 : decode cX6_ofSet 4 = .ok (.bipush 16, 2) := by decide +kernel
theorem dX6_ofSet_6 : decode cX6_ofSet 6 = .ok (.bipush 10, 2) := by decide +kernel
theorem dX6_ofSet_8 : decode cX6_ofSet 8 = .ok (.iload_n 1, 1) := by decide +kernel
theorem dX6_ofSet_9 : decode cX6_ofSet 9 = .ok (.imul, 1) := by decide +kernel
theorem dX6_ofSet_10 : decode cX6_ofSet 10 = .ok (.iadd, 1) := by decide +kernel
theorem dX6_ofSet_11 : decode cX6_ofSet 11 = .ok (.iload_n 2, 1) := by decide +kernel
theorem dX6_ofSet_12 : decode cX6_ofSet 12 = .ok (.iadd, 1) := by decide +kernel
theorem dX6_ofSet_13 : decode cX6_ofSet 13 = .ok (.iaload, 1) := by decide +kernel
theorem dX6_ofSet_14 : decode cX6_ofSet 14 = .ok (.ireturn, 1) := by decide +kernel
theorem dX6_toSet_0 : decode cX6_toSet 0 = .ok (.aload_n 0, 1) := by decide +kernel
theorem dX6_toSet_1 : decode cX6_toSet 1 = .ok (.getfield 7, 3) := by decide +kernel
theorem dX6_toSet_4 : decode cX6_toSet 4 = .ok (.bipush 16, 2) := by decide +kernel
theorem dX6_toSet_6 : decode cX6_toSet 6 = .ok (.bipush 10, 2) := by decide +kernel
theorem dX6_toSet_8 : decode cX6_toSet 8 = .ok (.iload_n 1, 1) := by decide +kernel
theorem dX6_toSet_9 : decode cX6_toSet 9 = .ok (.imul, 1) := by decide +kernel
theorem dX6_toSet_10 : decode cX6_toSet 10 = .ok (.iadd, 1) := by decide +kernel
theorem dX6_toSet_11 : decode cX6_toSet 11 = .ok (.iload_n 2, 1) := by decide +kernel
theorem dX6_toSet_12 : decode cX6_toSet 12 = .ok (.iadd, 1) := by decide +kernel
theorem dX6_toSet_13 : decode cX6_toSet 13 = .ok (.iload_n 3, 1) := by decide +kernel
theorem dX6_toSet_14 : decode cX6_toSet 14 = .ok (.iastore, 1) := by decide +kernel
theorem dX6_toSet_15 : decode cX6_toSet 15 = .ok (.return_, 1) := by decide +kernel
theorem dX6_ofSite_0 : decode cX6_ofSite 0 = .ok (.aload_n 0, 1) := by decide +kernel
theorem dX6_ofSite_1 : decode cX6_ofSite 1 = .ok (.getfield 7, 3) := by decide +kernel
theorem dX6_ofSite_4 : decode cX6_ofSite 4 = .ok (.bipush 116, 2) := by decide +kernel
theorem dX6_ofSite_6 : decode cX6_ofSite 6 = .ok (.bipush 10, 2) := by decide +kernel
theorem dX6_ofSite_8 : decode cX6_ofSite 8 = .ok (.iload_n 1, 1) := by decide +kernel
theorem dX6_ofSite_9 : decode cX6_ofSite 9 = .ok (.imul, 1) := by decide +kernel
theorem dX6_ofSite_10 : decode cX6_ofSite 10 = .ok (.iadd, 1) := by decide +kernel
theorem dX6_ofSite_11 : decode cX6_ofSite 11 = .ok (.iload_n 2, 1) := by decide +kernel
theorem dX6_ofSite_12 : decode cX6_ofSite 12 = .ok (.iadd, 1) := by decide +kernel
theorem dX6_ofSite_13 : decode cX6_ofSite 13 = .ok (.iaload, 1) := by decide +kernel
theorem dX6_ofSite_14 : decode cX6_ofSite 14 = .ok (.ireturn, 1) := by decide +kernel
theorem dX6_toSite_0 : decode cX6_toSite 0 = .ok (.aload_n 0, 1) := by decide +kernel
theorem dX6_toSite_1 : decode cX6_toSite 1 = .ok (.getfield 7, 3) := by decide +kernel
theorem dX6_toSite_4 : decode cX6_toSite 4 = .ok (.bipush 116, 2) := by decide +kernel
theorem dX6_toSite_6 : decode cX6_toSite 6 = .ok (.bipush 10, 2) := by decide +kernel
theorem dX6_toSite_8 : decode cX6_toSite 8 = .ok (.iload_n 1, 1) := by decide +kernel
theorem dX6_toSite_9 : decode cX6_toSite 9 = .ok (.imul, 1) := by decide +kernel
theorem dX6_toSite_10 : decode cX6_toSite 10 = .ok (.iadd, 1) := by decide +kernel
theorem dX6_toSite_11 : decode cX6_toSite 11 = .ok (.iload_n 2, 1) := by decide +kernel
theorem dX6_toSite_12 : decode cX6_toSite 12 = .ok (.iadd, 1) := by decide +kernel
theorem dX6_toSite_13 : decode cX6_toSite 13 = .ok (.iload_n 3, 1) := by decide +kernel
theorem dX6_toSite_14 : decode cX6_toSite 14 = .ok (.iastore, 1) := by decide +kernel
theorem dX6_toSite_15 : decode cX6_toSite 15 = .ok (.return_, 1) := by decide +kernel
theorem dX6_buy_0 : decode cX6_buy 0 = .ok (.iload_n 1, 1) := by decide +kernel
theorem dX6_buy_1 : decode cX6_buy 1 = .ok (.iconst 1, 1) := by decide +kernel
theorem dX6_buy_2 : decode cX6_buy 2 = .ok (.sipush 5000, 3) := by decide +kernel
theorem dX6_buy_5 : decode cX6_buy 5 = .ok (.invokestatic 36, 3) := by decide +kernel
theorem dX6_buy_8 : decode cX6_buy 8 = .ok (.ifCond .ne 6, 3) := by decide +kernel
theorem dX6_buy_11 : decode cX6_buy 11 = .ok (.bipush (-2), 2) := by decide +kernel
theorem dX6_buy_13 : decode cX6_buy 13 = .ok (.ireturn, 1) := by decide +kernel
theorem dX6_buy_14 : decode cX6_buy 14 = .ok (.aload_n 0, 1) := by decide +kernel
theorem dX6_buy_15 : decode cX6_buy 15 = .ok (.getfield 7, 3) := by decide +kernel
theorem dX6_buy_18 : decode cX6_buy 18 = .ok (.iconst 3, 1) := by decide +kernel
theorem dX6_buy_19 : decode cX6_buy 19 = .ok (.iaload, 1) := by decide +kernel
theorem dX6_buy_20 : decode cX6_buy 20 = .ok (.iload_n 1, 1) := by decide +kernel
theorem dX6_buy_21 : decode cX6_buy 21 = .ok (.iadd, 1) := by decide +kernel
theorem dX6_buy_22 : decode cX6_buy 22 = .ok (.ldc 40, 2) := by decide +kernel
theorem dX6_buy_24 : decode cX6_buy 24 = .ok (.if_icmp .le 6, 3) := by decide +kernel
theorem dX6_buy_27 : decode cX6_buy 27 = .ok (.bipush (-3), 2) := by decide +kernel
theorem dX6_buy_29 : decode cX6_buy 29 = .ok (.ireturn, 1) := by decide +kernel
theorem dX6_buy_30 : decode cX6_buy 30 = .ok (.aload_n 0, 1) := by decide +kernel
theorem dX6_buy_31 : decode cX6_buy 31 = .ok (.invokevirtual 41, 3) := by decide +kernel
theorem dX6_buy_34 : decode cX6_buy 34 = .ok (.aload_n 0, 1) := by decide +kernel
theorem dX6_buy_35 : decode cX6_buy 35 = .ok (.getfield 7, 3) := by decide +kernel
theorem dX6_buy_38 : decode cX6_buy 38 = .ok (.iconst 3, 1) := by decide +kernel
theorem dX6_buy_39 : decode cX6_buy 39 = .ok (.dup2, 1) := by decide +kernel
theorem dX6_buy_40 : decode cX6_buy 40 = .ok (.iaload, 1) := by decide +kernel
theorem dX6_buy_41 : decode cX6_buy 41 = .ok (.iload_n 1, 1) := by decide +kernel
theorem dX6_buy_42 : decode cX6_buy 42 = .ok (.iadd, 1) := by decide +kernel
theorem dX6_buy_43 : decode cX6_buy 43 = .ok (.iastore, 1) := by decide +kernel
theorem dX6_buy_44 : decode cX6_buy 44 = .ok (.aload_n 0, 1) := by decide +kernel
theorem dX6_buy_45 : decode cX6_buy 45 = .ok (.getfield 7, 3) := by decide +kernel
theorem dX6_buy_48 : decode cX6_buy 48 = .ok (.iconst 5, 1) := by decide +kernel
theorem dX6_buy_49 : decode cX6_buy 49 = .ok (.dup2, 1) := by decide +kernel
theorem dX6_buy_50 : decode cX6_buy 50 = .ok (.iaload, 1) := by decide +kernel
theorem dX6_buy_51 : decode cX6_buy 51 = .ok (.iload_n 1, 1) := by decide +kernel
theorem dX6_buy_52 : decode cX6_buy 52 = .ok (.iadd, 1) := by decide +kernel
theorem dX6_buy_53 : decode cX6_buy 53 = .ok (.iastore, 1) := by decide +kernel
theorem dX6_buy_54 : decode cX6_buy 54 = .ok (.aload_n 0, 1) := by decide +kernel
theorem dX6_buy_55 : decode cX6_buy 55 = .ok (.getfield 7, 3) := by decide +kernel
theorem dX6_buy_58 : decode cX6_buy 58 = .ok (.iconst 3, 1) := by decide +kernel
theorem dX6_buy_59 : decode cX6_buy 59 = .ok (.iaload, 1) := by decide +kernel
theorem dX6_buy_60 : decode cX6_buy 60 = .ok (.ireturn, 1) := by decide +kernel
theorem dX6_weather_0 : decode cX6_weather 0 = .ok (.iload_n 1, 1) := by decide +kernel
theorem dX6_weather_1 : decode cX6_weather 1 = .ok (.bipush (-30), 2) := by decide +kernel
theorem dX6_weather_3 : decode cX6_weather 3 = .ok (.bipush 20, 2) := by decide +kernel
theorem dX6_weather_5 : decode cX6_weather 5 = .ok (.invokestatic 36, 3) := by decide +kernel
theorem dX6_weather_8 : decode cX6_weather 8 = .ok (.ifCond .ne 6, 3) := by decide +kernel
theorem dX6_weather_11 : decode cX6_weather 11 = .ok (.bipush (-2), 2) := by decide +kernel
theorem dX6_weather_13 : decode cX6_weather 13 = .ok (.ireturn, 1) := by decide +kernel
theorem dX6_weather_14 : decode cX6_weather 14 = .ok (.iload_n 1, 1) := by decide +kernel
theorem dX6_weather_15 : decode cX6_weather 15 = .ok (.aload_n 0, 1) := by decide +kernel
theorem dX6_weather_16 : decode cX6_weather 16 = .ok (.getfield 7, 3) := by decide +kernel
theorem dX6_weather_19 : decode cX6_weather 19 = .ok (.iconst 1, 1) := by decide +kernel
theorem dX6_weather_20 : decode cX6_weather 20 = .ok (.iaload, 1) := by decide +kernel
theorem dX6_weather_21 : decode cX6_weather 21 = .ok (.isub, 1) := by decide +kernel
theorem dX6_weather_22 : decode cX6_weather 22 = .ok (.istore_n 2, 1) := by decide +kernel
theorem dX6_weather_23 : decode cX6_weather 23 = .ok (.iload_n 2, 1) := by decide +kernel
theorem dX6_weather_24 : decode cX6_weather 24 = .ok (.ifCond .ne 6, 3) := by decide +kernel
theorem dX6_weather_27 : decode cX6_weather 27 = .ok (.bipush (-5), 2) := by decide +kernel
theorem dX6_weather_29 : decode cX6_weather 29 = .ok (.ireturn, 1) := by decide +kernel
theorem dX6_weather_30 : decode cX6_weather 30 = .ok (.aload_n 0, 1) := by decide +kernel
theorem dX6_weather_31 : decode cX6_weather 31 = .ok (.invokevirtual 41, 3) := by decide +kernel
theorem dX6_weather_34 : decode cX6_weather 34 = .ok (.aload_n 0, 1) := by decide +kernel
theorem dX6_weather_35 : decode cX6_weather 35 = .ok (.getfield 7, 3) := by decide +kernel
theorem dX6_weather_38 : decode cX6_weather 38 = .ok (.iconst 1, 1) := by decide +kernel
theorem dX6_weather_39 : decode cX6_weather 39 = .ok (.iload_n 1, 1) := by decide +kernel
theorem dX6_weather_40 : decode cX6_weather 40 = .ok (.iastore, 1) := by decide +kernel
theorem dX6_weather_41 : decode cX6_weather 41 = .ok (.iload_n 2, 1) := by decide +kernel
theorem dX6_weather_42 : decode cX6_weather 42 = .ok (.ifCond .ge 8, 3) := by decide +kernel
theorem dX6_weather_45 : decode cX6_weather 45 = .ok (.iload_n 2, 1) := by decide +kernel
theorem dX6_weather_46 : decode cX6_weather 46 = .ok (.ineg, 1) := by decide +kernel
theorem dX6_weather_47 : decode cX6_weather 47 = .ok (.goto 4, 3) := by decide +kernel
theorem dX6_weather_50 : decode cX6_weather 50 = .ok (.iload_n 2, 1) := by decide +kernel
theorem dX6_weather_51 : decode cX6_weather 51 = .ok (.ireturn, 1) := by decide +kernel
theorem dX6_setPrice_0 : decode cX6_setPrice 0 = .ok (.iload_n 1, 1) := by decide +kernel
theorem dX6_setPrice_1 : decode cX6_setPrice 1 = .ok (.iconst 1, 1) := by decide +kernel
theorem dX6_setPrice_2 : decode cX6_setPrice 2 = .ok (.bipush 99, 2) := by decide +kernel
theorem dX6_setPrice_4 : decode cX6_setPrice 4 = .ok (.invokestatic 36, 3) := by decide +kernel
theorem dX6_setPrice_7 : decode cX6_setPrice 7 = .ok (.ifCond .ne 6, 3) := by decide +kernel
theorem dX6_setPrice_10 : decode cX6_setPrice 10 = .ok (.bipush (-2), 2) := by decide +kernel
theorem dX6_setPrice_12 : decode cX6_setPrice 12 = .ok (.ireturn, 1) := by decide +kernel
theorem dX6_setPrice_13 : decode cX6_setPrice 13 = .ok (.aload_n 0, 1) := by decide +kernel
theorem dX6_setPrice_14 : decode cX6_setPrice 14 = .ok (.getfield 7, 3) := by decide +kernel
theorem dX6_setPrice_17 : decode cX6_setPrice 17 = .ok (.iconst 2, 1) := by decide +kernel
theorem dX6_setPrice_18 : decode cX6_setPrice 18 = .ok (.iaload, 1) := by decide +kernel
theorem dX6_setPrice_19 : decode cX6_setPrice 19 = .ok (.istore_n 2, 1) := by decide +kernel
theorem dX6_setPrice_20 : decode cX6_setPrice 20 = .ok (.iload_n 2, 1) := by decide +kernel
theorem dX6_setPrice_21 : decode cX6_setPrice 21 = .ok (.iload_n 1, 1) := by decide +kernel
theorem dX6_setPrice_22 : decode cX6_setPrice 22 = .ok (.if_icmp .ne 6, 3) := by decide +kernel
theorem dX6_setPrice_25 : decode cX6_setPrice 25 = .ok (.bipush (-5), 2) := by decide +kernel
theorem dX6_setPrice_27 : decode cX6_setPrice 27 = .ok (.ireturn, 1) := by decide +kernel
theorem dX6_setPrice_28 : decode cX6_setPrice 28 = .ok (.aload_n 0, 1) := by decide +kernel
theorem dX6_setPrice_29 : decode cX6_setPrice 29 = .ok (.invokevirtual 41, 3) := by decide +kernel
theorem dX6_setPrice_32 : decode cX6_setPrice 32 = .ok (.aload_n 0, 1) := by decide +kernel
theorem dX6_setPrice_33 : decode cX6_setPrice 33 = .ok (.getfield 7, 3) := by decide +kernel
theorem dX6_setPrice_36 : decode cX6_setPrice 36 = .ok (.iconst 2, 1) := by decide +kernel
theorem dX6_setPrice_37 : decode cX6_setPrice 37 = .ok (.iload_n 1, 1) := by decide +kernel
theorem dX6_setPrice_38 : decode cX6_setPrice 38 = .ok (.iastore, 1) := by decide +kernel
theorem dX6_setPrice_39 : decode cX6_setPrice 39 = .ok (.iload_n 2, 1) := by decide +kernel
theorem dX6_setPrice_40 : decode cX6_setPrice 40 = .ok (.ireturn, 1) := by decide +kernel
theorem dX6_addSet_0 : decode cX6_addSet 0 = .ok (.iload_n 1, 1) := by decide +kernel
theorem dX6_addSet_1 : decode cX6_addSet 1 = .ok (.iconst 1, 1) := by decide +kernel
theorem dX6_addSet_2 : decode cX6_addSet 2 = .ok (.bipush 99, 2) := by decide +kernel
theorem dX6_addSet_4 : decode cX6_addSet 4 = .ok (.invokestatic 36, 3) := by decide +kernel
theorem dX6_addSet_7 : decode cX6_addSet 7 = .ok (.ifCond .eq 42, 3) := by decide +kernel
theorem dX6_addSet_10 : decode cX6_addSet 10 = .ok (.iload_n 2, 1) := by decide +kernel
theorem dX6_addSet_11 : decode cX6_addSet 11 = .ok (.bipush 10, 2) := by decide +kernel
theorem dX6_addSet_13 : decode cX6_addSet 13 = .ok (.sipush 500, 3) := by decide +kernel
theorem dX6_addSet_16 : decode cX6_addSet 16 = .ok (.invokestatic 36, 3) := by decide +kernel
theorem dX6_addSet_19 : decode cX6_addSet 19 = .ok (.ifCond .eq 30, 3) := by decide +kernel
theorem dX6_addSet_22 : decode cX6_addSet 22 = .ok (.iload_n 3, 1) := by decide +kernel
theorem dX6_addSet_23 : decode cX6_addSet 23 = .ok (.iconst 1, 1) := by decide +kernel
theorem dX6_addSet_24 : decode cX6_addSet 24 = .ok (.bipush 50, 2) := by decide +kernel
theorem dX6_addSet_26 : decode cX6_addSet 26 = .ok (.invokestatic 36, 3) := by decide +kernel
theorem dX6_addSet_29 : decode cX6_addSet 29 = .ok (.ifCond .eq 20, 3) := by decide +kernel
theorem dX6_addSet_32 : decode cX6_addSet 32 = .ok (.iload_n 3, 1) := by decide +kernel
theorem dX6_addSet_33 : decode cX6_addSet 33 = .ok (.iload_n 2, 1) := by decide +kernel
theorem dX6_addSet_34 : decode cX6_addSet 34 = .ok (.if_icmp .gt 15, 3) := by decide +kernel
theorem dX6_addSet_37 : decode cX6_addSet 37 = .ok (.iload 4, 2) := by decide +kernel
theorem dX6_addSet_39 : decode cX6_addSet 39 = .ok (.bipush (-30), 2) := by decide +kernel
theorem dX6_addSet_41 : decode cX6_addSet 41 = .ok (.bipush 10, 2) := by decide +kernel
theorem dX6_addSet_43 : decode cX6_addSet 43 = .ok (.invokestatic 36, 3) := by decide +kernel
theorem dX6_addSet_46 : decode cX6_addSet 46 = .ok (.ifCond .ne 6, 3) := by decide +kernel
theorem dX6_addSet_49 : decode cX6_addSet 49 = .ok (.bipush (-2), 2) := by decide +kernel
theorem dX6_addSet_51 : decode cX6_addSet 51 = .ok (.ireturn, 1) := by decide +kernel
theorem dX6_addSet_52 : decode cX6_addSet 52 = .ok (.aload_n 0, 1) := by decide +kernel
theorem dX6_addSet_53 : decode cX6_addSet 53 = .ok (.getfield 7, 3) := by decide +kernel
theorem dX6_addSet_56 : decode cX6_addSet 56 = .ok (.bipush 6, 2) := by decide +kernel
theorem dX6_addSet_58 : decode cX6_addSet 58 = .ok (.iaload, 1) := by decide +kernel
theorem dX6_addSet_59 : decode cX6_addSet 59 = .ok (.bipush 10, 2) := by decide +kernel
theorem dX6_addSet_61 : decode cX6_addSet 61 = .ok (.if_icmp .ne 6, 3) := by decide +kernel
theorem dX6_addSet_64 : decode cX6_addSet 64 = .ok (.bipush (-3), 2) := by decide +kernel
theorem dX6_addSet_66 : decode cX6_addSet 66 = .ok (.ireturn, 1) := by decide +kernel
theorem dX6_addSet_67 : decode cX6_addSet 67 = .ok (.aload_n 0, 1) := by decide +kernel
theorem dX6_addSet_68 : decode cX6_addSet 68 = .ok (.invokevirtual 41, 3) := by decide +kernel
theorem dX6_addSet_71 : decode cX6_addSet 71 = .ok (.aload_n 0, 1) := by decide +kernel
theorem dX6_addSet_72 : decode cX6_addSet 72 = .ok (.getfield 7, 3) := by decide +kernel
theorem dX6_addSet_75 : decode cX6_addSet 75 = .ok (.bipush 6, 2) := by decide +kernel
theorem dX6_addSet_77 : decode cX6_addSet 77 = .ok (.iaload, 1) := by decide +kernel
theorem dX6_addSet_78 : decode cX6_addSet 78 = .ok (.istore 5, 2) := by decide +kernel
theorem dX6_addSet_80 : decode cX6_addSet 80 = .ok (.aload_n 0, 1) := by decide +kernel
theorem dX6_addSet_81 : decode cX6_addSet 81 = .ok (.getfield 7, 3) := by decide +kernel
theorem dX6_addSet_84 : decode cX6_addSet 84 = .ok (.bipush 6, 2) := by decide +kernel
theorem dX6_addSet_86 : decode cX6_addSet 86 = .ok (.dup2, 1) := by decide +kernel
theorem dX6_addSet_87 : decode cX6_addSet 87 = .ok (.iaload, 1) := by decide +kernel
theorem dX6_addSet_88 : decode cX6_addSet 88 = .ok (.iconst 1, 1) := by decide +kernel
theorem dX6_addSet_89 : decode cX6_addSet 89 = .ok (.iadd, 1) := by decide +kernel
theorem dX6_addSet_90 : decode cX6_addSet 90 = .ok (.iastore, 1) := by decide +kernel
theorem dX6_addSet_91 : decode cX6_addSet 91 = .ok (.aload_n 0, 1) := by decide +kernel
theorem dX6_addSet_92 : decode cX6_addSet 92 = .ok (.iload 5, 2) := by decide +kernel
theorem dX6_addSet_94 : decode cX6_addSet 94 = .ok (.iconst 0, 1) := by decide +kernel
theorem dX6_addSet_95 : decode cX6_addSet 95 = .ok (.iload_n 1, 1) := by decide +kernel
theorem dX6_addSet_96 : decode cX6_addSet 96 = .ok (.invokevirtual 44, 3) := by decide +kernel
theorem dX6_addSet_99 : decode cX6_addSet 99 = .ok (.aload_n 0, 1) := by decide +kernel
theorem dX6_addSet_100 : decode cX6_addSet 100 = .ok (.iload 5, 2) := by decide +kernel
theorem dX6_addSet_102 : decode cX6_addSet 102 = .ok (.iconst 1, 1) := by decide +kernel
theorem dX6_addSet_103 : decode cX6_addSet 103 = .ok (.iload_n 2, 1) := by decide +kernel
theorem dX6_addSet_104 : decode cX6_addSet 104 = .ok (.invokevirtual 44, 3) := by decide +kernel
theorem dX6_addSet_107 : decode cX6_addSet 107 = .ok (.aload_n 0, 1) := by decide +kernel
theorem dX6_addSet_108 : decode cX6_addSet 108 = .ok (.iload 5, 2) := by decide +kernel
theorem dX6_addSet_110 : decode cX6_addSet 110 = .ok (.iconst 2, 1) := by decide +kernel
theorem dX6_addSet_111 : decode cX6_addSet 111 = .ok (.iload_n 3, 1) := by decide +kernel
theorem dX6_addSet_112 : decode cX6_addSet 112 = .ok (.invokevirtual 44, 3) := by decide +kernel
theorem dX6_addSet_115 : decode cX6_addSet 115 = .ok (.aload_n 0, 1) := by decide +kernel
theorem dX6_addSet_116 : decode cX6_addSet 116 = .ok (.iload 5, 2) := by decide +kernel
theorem dX6_addSet_118 : decode cX6_addSet 118 = .ok (.iconst 3, 1) := by decide +kernel
theorem dX6_addSet_119 : decode cX6_addSet 119 = .ok (.iload 4, 2) := by decide +kernel
theorem dX6_addSet_121 : decode cX6_addSet 121 = .ok (.invokevirtual 44, 3) := by decide +kernel
theorem dX6_addSet_124 : decode cX6_addSet 124 = .ok (.iconst 4, 1) := by decide +kernel
theorem dX6_addSet_125 : decode cX6_addSet 125 = .ok (.istore 6, 2) := by decide +kernel
theorem dX6_addSet_127 : decode cX6_addSet 127 = .ok (.iload 6, 2) := by decide +kernel
theorem dX6_addSet_129 : decode cX6_addSet 129 = .ok (.bipush 8, 2) := by decide +kernel
theorem dX6_addSet_131 : decode cX6_addSet 131 = .ok (.if_icmp .gt 18, 3) := by decide +kernel
theorem dX6_addSet_134 : decode cX6_addSet 134 = .ok (.aload_n 0, 1) := by decide +kernel
theorem dX6_addSet_135 : decode cX6_addSet 135 = .ok (.iload 5, 2) := by decide +kernel
theorem dX6_addSet_137 : decode cX6_addSet 137 = .ok (.iload 6, 2) := by decide +kernel
theorem dX6_addSet_139 : decode cX6_addSet 139 = .ok (.iconst 0, 1) := by decide +kernel
theorem dX6_addSet_140 : decode cX6_addSet 140 = .ok (.invokevirtual 44, 3) := by decide +kernel
theorem dX6_addSet_143 : decode cX6_addSet 143 = .ok (.iinc 6 1, 3) := by decide +kernel
theorem dX6_addSet_146 : decode cX6_addSet 146 = .ok (.goto (-19), 3) := by decide +kernel
theorem dX6_addSet_149 : decode cX6_addSet 149 = .ok (.iload 5, 2) := by decide +kernel
theorem dX6_addSet_151 : decode cX6_addSet 151 = .ok (.ireturn, 1) := by decide +kernel
theorem dX6_roomIn_0 : decode cX6_roomIn 0 = .ok (.aload_n 0, 1) := by decide +kernel
theorem dX6_roomIn_1 : decode cX6_roomIn 1 = .ok (.iload_n 1, 1) := by decide +kernel
theorem dX6_roomIn_2 : decode cX6_roomIn 2 = .ok (.iconst 1, 1) := by decide +kernel
theorem dX6_roomIn_3 : decode cX6_roomIn 3 = .ok (.invokevirtual 48, 3) := by decide +kernel
theorem dX6_roomIn_6 : decode cX6_roomIn 6 = .ok (.aload_n 0, 1) := by decide +kernel
theorem dX6_roomIn_7 : decode cX6_roomIn 7 = .ok (.iload_n 1, 1) := by decide +kernel
theorem dX6_roomIn_8 : decode cX6_roomIn 8 = .ok (.iconst 4, 1) := by decide +kernel
theorem dX6_roomIn_9 : decode cX6_roomIn 9 = .ok (.invokevirtual 48, 3) := by decide +kernel
theorem dX6_roomIn_12 : decode cX6_roomIn 12 = .ok (.isub, 1) := by decide +kernel
theorem dX6_roomIn_13 : decode cX6_roomIn 13 = .ok (.ireturn, 1) := by decide +kernel
theorem dX6_fills_0 : decode cX6_fills 0 = .ok (.aload_n 0, 1) := by decide +kernel
theorem dX6_fills_1 : decode cX6_fills 1 = .ok (.iload_n 1, 1) := by decide +kernel
theorem dX6_fills_2 : decode cX6_fills 2 = .ok (.iconst 4, 1) := by decide +kernel
theorem dX6_fills_3 : decode cX6_fills 3 = .ok (.aload_n 0, 1) := by decide +kernel
theorem dX6_fills_4 : decode cX6_fills 4 = .ok (.iload_n 1, 1) := by decide +kernel
theorem dX6_fills_5 : decode cX6_fills 5 = .ok (.iconst 4, 1) := by decide +kernel
theorem dX6_fills_6 : decode cX6_fills 6 = .ok (.invokevirtual 48, 3) := by decide +kernel
theorem dX6_fills_9 : decode cX6_fills 9 = .ok (.iload_n 2, 1) := by decide +kernel
theorem dX6_fills_10 : decode cX6_fills 10 = .ok (.iadd, 1) := by decide +kernel
theorem dX6_fills_11 : decode cX6_fills 11 = .ok (.invokevirtual 44, 3) := by decide +kernel
theorem dX6_fills_14 : decode cX6_fills 14 = .ok (.aload_n 0, 1) := by decide +kernel
theorem dX6_fills_15 : decode cX6_fills 15 = .ok (.getfield 7, 3) := by decide +kernel
theorem dX6_fills_18 : decode cX6_fills 18 = .ok (.iconst 3, 1) := by decide +kernel
theorem dX6_fills_19 : decode cX6_fills 19 = .ok (.dup2, 1) := by decide +kernel
theorem dX6_fills_20 : decode cX6_fills 20 = .ok (.iaload, 1) := by decide +kernel
theorem dX6_fills_21 : decode cX6_fills 21 = .ok (.iload_n 2, 1) := by decide +kernel
theorem dX6_fills_22 : decode cX6_fills 22 = .ok (.isub, 1) := by decide +kernel
theorem dX6_fills_23 : decode cX6_fills 23 = .ok (.iastore, 1) := by decide +kernel
theorem dX6_fills_24 : decode cX6_fills 24 = .ok (.return_, 1) := by decide +kernel
theorem dX6_fill_0 : decode cX6_fill 0 = .ok (.aload_n 0, 1) := by decide +kernel
theorem dX6_fill_1 : decode cX6_fill 1 = .ok (.iload_n 1, 1) := by decide +kernel
theorem dX6_fill_2 : decode cX6_fill 2 = .ok (.invokevirtual 52, 3) := by decide +kernel
theorem dX6_fill_5 : decode cX6_fill 5 = .ok (.ifCond .eq 5, 3) := by decide +kernel
theorem dX6_fill_8 : decode cX6_fill 8 = .ok (.iconst (-1), 1) := by decide +kernel
theorem dX6_fill_9 : decode cX6_fill 9 = .ok (.ireturn, 1) := by decide +kernel
theorem dX6_fill_10 : decode cX6_fill 10 = .ok (.aload_n 0, 1) := by decide +kernel
theorem dX6_fill_11 : decode cX6_fill 11 = .ok (.iload_n 1, 1) := by decide +kernel
theorem dX6_fill_12 : decode cX6_fill 12 = .ok (.iconst 5, 1) := by decide +kernel
theorem dX6_fill_13 : decode cX6_fill 13 = .ok (.invokevirtual 48, 3) := by decide +kernel
theorem dX6_fill_16 : decode cX6_fill 16 = .ok (.ifCond .le 6, 3) := by decide +kernel
theorem dX6_fill_19 : decode cX6_fill 19 = .ok (.bipush (-4), 2) := by decide +kernel
theorem dX6_fill_21 : decode cX6_fill 21 = .ok (.ireturn, 1) := by decide +kernel
theorem dX6_fill_22 : decode cX6_fill 22 = .ok (.aload_n 0, 1) := by decide +kernel
theorem dX6_fill_23 : decode cX6_fill 23 = .ok (.iload_n 1, 1) := by decide +kernel
theorem dX6_fill_24 : decode cX6_fill 24 = .ok (.invokevirtual 56, 3) := by decide +kernel
theorem dX6_fill_27 : decode cX6_fill 27 = .ok (.aload_n 0, 1) := by decide +kernel
theorem dX6_fill_28 : decode cX6_fill 28 = .ok (.getfield 7, 3) := by decide +kernel
theorem dX6_fill_31 : decode cX6_fill 31 = .ok (.iconst 3, 1) := by decide +kernel
theorem dX6_fill_32 : decode cX6_fill 32 = .ok (.iaload, 1) := by decide +kernel
theorem dX6_fill_33 : decode cX6_fill 33 = .ok (.invokestatic 60, 3) := by decide +kernel
theorem dX6_fill_36 : decode cX6_fill 36 = .ok (.istore_n 2, 1) := by decide +kernel
theorem dX6_fill_37 : decode cX6_fill 37 = .ok (.iload_n 2, 1) := by decide +kernel
theorem dX6_fill_38 : decode cX6_fill 38 = .ok (.ifCond .ne 6, 3) := by decide +kernel
theorem dX6_fill_41 : decode cX6_fill 41 = .ok (.bipush (-5), 2) := by decide +kernel
theorem dX6_fill_43 : decode cX6_fill 43 = .ok (.ireturn, 1) := by decide +kernel
theorem dX6_fill_44 : decode cX6_fill 44 = .ok (.aload_n 0, 1) := by decide +kernel
theorem dX6_fill_45 : decode cX6_fill 45 = .ok (.invokevirtual 41, 3) := by decide +kernel
theorem dX6_fill_48 : decode cX6_fill 48 = .ok (.aload_n 0, 1) := by decide +kernel
theorem dX6_fill_49 : decode cX6_fill 49 = .ok (.iload_n 1, 1) := by decide +kernel
theorem dX6_fill_50 : decode cX6_fill 50 = .ok (.iload_n 2, 1) := by decide +kernel
theorem dX6_fill_51 : decode cX6_fill 51 = .ok (.invokevirtual 63, 3) := by decide +kernel
theorem dX6_fill_54 : decode cX6_fill 54 = .ok (.iload_n 2, 1) := by decide +kernel
theorem dX6_fill_55 : decode cX6_fill 55 = .ok (.ireturn, 1) := by decide +kernel
theorem dX6_areHours_0 : decode cX6_areHours 0 = .ok (.iload_n 1, 1) := by decide +kernel
theorem dX6_areHours_1 : decode cX6_areHours 1 = .ok (.iconst 0, 1) := by decide +kernel
theorem dX6_areHours_2 : decode cX6_areHours 2 = .ok (.sipush 998, 3) := by decide +kernel
theorem dX6_areHours_5 : decode cX6_areHours 5 = .ok (.invokestatic 36, 3) := by decide +kernel
theorem dX6_areHours_8 : decode cX6_areHours 8 = .ok (.ifCond .eq 29, 3) := by decide +kernel
theorem dX6_areHours_11 : decode cX6_areHours 11 = .ok (.iload_n 2, 1) := by decide +kernel
theorem dX6_areHours_12 : decode cX6_areHours 12 = .ok (.iload_n 1, 1) := by decide +kernel
theorem dX6_areHours_13 : decode cX6_areHours 13 = .ok (.if_icmp .le 24, 3) := by decide +kernel
theorem dX6_areHours_16 : decode cX6_areHours 16 = .ok (.iload_n 2, 1) := by decide +kernel
theorem dX6_areHours_17 : decode cX6_areHours 17 = .ok (.aload_n 0, 1) := by decide +kernel
theorem dX6_areHours_18 : decode cX6_areHours 18 = .ok (.getfield 7, 3) := by decide +kernel
theorem dX6_areHours_21 : decode cX6_areHours 21 = .ok (.iconst 0, 1) := by decide +kernel
theorem dX6_areHours_22 : decode cX6_areHours 22 = .ok (.iaload, 1) := by decide +kernel
theorem dX6_areHours_23 : decode cX6_areHours 23 = .ok (.if_icmp .le 14, 3) := by decide +kernel
theorem dX6_areHours_26 : decode cX6_areHours 26 = .ok (.iload_n 2, 1) := by decide +kernel
theorem dX6_areHours_27 : decode cX6_areHours 27 = .ok (.sipush 999, 3) := by decide +kernel
theorem dX6_areHours_30 : decode cX6_areHours 30 = .ok (.if_icmp .gt 7, 3) := by decide +kernel
theorem dX6_areHours_33 : decode cX6_areHours 33 = .ok (.iconst 1, 1) := by decide +kernel
theorem dX6_areHours_34 : decode cX6_areHours 34 = .ok (.goto 4, 3) := by decide +kernel
theorem dX6_areHours_37 : decode cX6_areHours 37 = .ok (.iconst 0, 1) := by decide +kernel
theorem dX6_areHours_38 : decode cX6_areHours 38 = .ok (.ireturn, 1) := by decide +kernel
theorem dX6_adds_0 : decode cX6_adds 0 = .ok (.aload_n 0, 1) := by decide +kernel
theorem dX6_adds_1 : decode cX6_adds 1 = .ok (.getfield 7, 3) := by decide +kernel
theorem dX6_adds_4 : decode cX6_adds 4 = .ok (.bipush 7, 2) := by decide +kernel
theorem dX6_adds_6 : decode cX6_adds 6 = .ok (.iaload, 1) := by decide +kernel
theorem dX6_adds_7 : decode cX6_adds 7 = .ok (.istore 5, 2) := by decide +kernel
theorem dX6_adds_9 : decode cX6_adds 9 = .ok (.aload_n 0, 1) := by decide +kernel
theorem dX6_adds_10 : decode cX6_adds 10 = .ok (.getfield 7, 3) := by decide +kernel
theorem dX6_adds_13 : decode cX6_adds 13 = .ok (.bipush 7, 2) := by decide +kernel
theorem dX6_adds_15 : decode cX6_adds 15 = .ok (.dup2, 1) := by decide +kernel
theorem dX6_adds_16 : decode cX6_adds 16 = .ok (.iaload, 1) := by decide +kernel
theorem dX6_adds_17 : decode cX6_adds 17 = .ok (.iconst 1, 1) := by decide +kernel
theorem dX6_adds_18 : decode cX6_adds 18 = .ok (.iadd, 1) := by decide +kernel
theorem dX6_adds_19 : decode cX6_adds 19 = .ok (.iastore, 1) := by decide +kernel
theorem dX6_adds_20 : decode cX6_adds 20 = .ok (.aload_n 0, 1) := by decide +kernel
theorem dX6_adds_21 : decode cX6_adds 21 = .ok (.iload 5, 2) := by decide +kernel
theorem dX6_adds_23 : decode cX6_adds 23 = .ok (.iconst 0, 1) := by decide +kernel
theorem dX6_adds_24 : decode cX6_adds 24 = .ok (.iload_n 1, 1) := by decide +kernel
theorem dX6_adds_25 : decode cX6_adds 25 = .ok (.invokevirtual 67, 3) := by decide +kernel
theorem dX6_adds_28 : decode cX6_adds 28 = .ok (.aload_n 0, 1) := by decide +kernel
theorem dX6_adds_29 : decode cX6_adds 29 = .ok (.iload 5, 2) := by decide +kernel
theorem dX6_adds_31 : decode cX6_adds 31 = .ok (.iconst 1, 1) := by decide +kernel
theorem dX6_adds_32 : decode cX6_adds 32 = .ok (.iload_n 2, 1) := by decide +kernel
theorem dX6_adds_33 : decode cX6_adds 33 = .ok (.invokevirtual 67, 3) := by decide +kernel
theorem dX6_adds_36 : decode cX6_adds 36 = .ok (.aload_n 0, 1) := by decide +kernel
theorem dX6_adds_37 : decode cX6_adds 37 = .ok (.iload 5, 2) := by decide +kernel
theorem dX6_adds_39 : decode cX6_adds 39 = .ok (.iconst 2, 1) := by decide +kernel
theorem dX6_adds_40 : decode cX6_adds 40 = .ok (.iload_n 3, 1) := by decide +kernel
theorem dX6_adds_41 : decode cX6_adds 41 = .ok (.invokevirtual 67, 3) := by decide +kernel
theorem dX6_adds_44 : decode cX6_adds 44 = .ok (.aload_n 0, 1) := by decide +kernel
theorem dX6_adds_45 : decode cX6_adds 45 = .ok (.iload 5, 2) := by decide +kernel
theorem dX6_adds_47 : decode cX6_adds 47 = .ok (.iconst 3, 1) := by decide +kernel
theorem dX6_adds_48 : decode cX6_adds 48 = .ok (.iload 4, 2) := by decide +kernel
theorem dX6_adds_50 : decode cX6_adds 50 = .ok (.invokevirtual 67, 3) := by decide +kernel
theorem dX6_adds_53 : decode cX6_adds 53 = .ok (.iconst 4, 1) := by decide +kernel
theorem dX6_adds_54 : decode cX6_adds 54 = .ok (.istore 6, 2) := by decide +kernel
theorem dX6_adds_56 : decode cX6_adds 56 = .ok (.iload 6, 2) := by decide +kernel
theorem dX6_adds_58 : decode cX6_adds 58 = .ok (.bipush 8, 2) := by decide +kernel
theorem dX6_adds_60 : decode cX6_adds 60 = .ok (.if_icmp .gt 18, 3) := by decide +kernel
theorem dX6_adds_63 : decode cX6_adds 63 = .ok (.aload_n 0, 1) := by decide +kernel
theorem dX6_adds_64 : decode cX6_adds 64 = .ok (.iload 5, 2) := by decide +kernel
theorem dX6_adds_66 : decode cX6_adds 66 = .ok (.iload 6, 2) := by decide +kernel
theorem dX6_adds_68 : decode cX6_adds 68 = .ok (.iconst 0, 1) := by decide +kernel
theorem dX6_adds_69 : decode cX6_adds 69 = .ok (.invokevirtual 67, 3) := by decide +kernel
theorem dX6_adds_72 : decode cX6_adds 72 = .ok (.iinc 6 1, 3) := by decide +kernel
theorem dX6_adds_75 : decode cX6_adds 75 = .ok (.goto (-19), 3) := by decide +kernel
theorem dX6_adds_78 : decode cX6_adds 78 = .ok (.iload 5, 2) := by decide +kernel
theorem dX6_adds_80 : decode cX6_adds 80 = .ok (.ireturn, 1) := by decide +kernel
theorem dX6_addSite_0 : decode cX6_addSite 0 = .ok (.iload_n 1, 1) := by decide +kernel
theorem dX6_addSite_1 : decode cX6_addSite 1 = .ok (.iconst 1, 1) := by decide +kernel
theorem dX6_addSite_2 : decode cX6_addSite 2 = .ok (.bipush 9, 2) := by decide +kernel
theorem dX6_addSite_4 : decode cX6_addSite 4 = .ok (.invokestatic 36, 3) := by decide +kernel
theorem dX6_addSite_7 : decode cX6_addSite 7 = .ok (.ifCond .eq 23, 3) := by decide +kernel
theorem dX6_addSite_10 : decode cX6_addSite 10 = .ok (.iload_n 2, 1) := by decide +kernel
theorem dX6_addSite_11 : decode cX6_addSite 11 = .ok (.iconst 1, 1) := by decide +kernel
theorem dX6_addSite_12 : decode cX6_addSite 12 = .ok (.bipush 99, 2) := by decide +kernel
theorem dX6_addSite_14 : decode cX6_addSite 14 = .ok (.invokestatic 36, 3) := by decide +kernel
theorem dX6_addSite_17 : decode cX6_addSite 17 = .ok (.ifCond .eq 13, 3) := by decide +kernel
theorem dX6_addSite_20 : decode cX6_addSite 20 = .ok (.aload_n 0, 1) := by decide +kernel
theorem dX6_addSite_21 : decode cX6_addSite 21 = .ok (.iload_n 3, 1) := by decide +kernel
theorem dX6_addSite_22 : decode cX6_addSite 22 = .ok (.iload 4, 2) := by decide +kernel
theorem dX6_addSite_24 : decode cX6_addSite 24 = .ok (.invokevirtual 70, 3) := by decide +kernel
theorem dX6_addSite_27 : decode cX6_addSite 27 = .ok (.ifCond .ne 6, 3) := by decide +kernel
theorem dX6_addSite_30 : decode cX6_addSite 30 = .ok (.bipush (-2), 2) := by decide +kernel
theorem dX6_addSite_32 : decode cX6_addSite 32 = .ok (.ireturn, 1) := by decide +kernel
theorem dX6_addSite_33 : decode cX6_addSite 33 = .ok (.aload_n 0, 1) := by decide +kernel
theorem dX6_addSite_34 : decode cX6_addSite 34 = .ok (.getfield 7, 3) := by decide +kernel
theorem dX6_addSite_37 : decode cX6_addSite 37 = .ok (.bipush 7, 2) := by decide +kernel
theorem dX6_addSite_39 : decode cX6_addSite 39 = .ok (.iaload, 1) := by decide +kernel
theorem dX6_addSite_40 : decode cX6_addSite 40 = .ok (.bipush 12, 2) := by decide +kernel
theorem dX6_addSite_42 : decode cX6_addSite 42 = .ok (.if_icmp .ne 6, 3) := by decide +kernel
theorem dX6_addSite_45 : decode cX6_addSite 45 = .ok (.bipush (-3), 2) := by decide +kernel
theorem dX6_addSite_47 : decode cX6_addSite 47 = .ok (.ireturn, 1) := by decide +kernel
theorem dX6_addSite_48 : decode cX6_addSite 48 = .ok (.aload_n 0, 1) := by decide +kernel
theorem dX6_addSite_49 : decode cX6_addSite 49 = .ok (.invokevirtual 41, 3) := by decide +kernel
theorem dX6_addSite_52 : decode cX6_addSite 52 = .ok (.aload_n 0, 1) := by decide +kernel
theorem dX6_addSite_53 : decode cX6_addSite 53 = .ok (.iload_n 1, 1) := by decide +kernel
theorem dX6_addSite_54 : decode cX6_addSite 54 = .ok (.iload_n 2, 1) := by decide +kernel
theorem dX6_addSite_55 : decode cX6_addSite 55 = .ok (.iload_n 3, 1) := by decide +kernel
theorem dX6_addSite_56 : decode cX6_addSite 56 = .ok (.iload 4, 2) := by decide +kernel
theorem dX6_addSite_58 : decode cX6_addSite 58 = .ok (.invokevirtual 74, 3) := by decide +kernel
theorem dX6_addSite_61 : decode cX6_addSite 61 = .ok (.ireturn, 1) := by decide +kernel
theorem dX6_setAt_0 : decode cX6_setAt 0 = .ok (.aload_n 0, 1) := by decide +kernel
theorem dX6_setAt_1 : decode cX6_setAt 1 = .ok (.iload_n 1, 1) := by decide +kernel
theorem dX6_setAt_2 : decode cX6_setAt 2 = .ok (.iconst 4, 1) := by decide +kernel
theorem dX6_setAt_3 : decode cX6_setAt 3 = .ok (.invokevirtual 78, 3) := by decide +kernel
theorem dX6_setAt_6 : decode cX6_setAt 6 = .ok (.iconst 1, 1) := by decide +kernel
theorem dX6_setAt_7 : decode cX6_setAt 7 = .ok (.isub, 1) := by decide +kernel
theorem dX6_setAt_8 : decode cX6_setAt 8 = .ok (.ireturn, 1) := by decide +kernel
theorem dX6_isOpen_0 : decode cX6_isOpen 0 = .ok (.aload_n 0, 1) := by decide +kernel
theorem dX6_isOpen_1 : decode cX6_isOpen 1 = .ok (.iload_n 1, 1) := by decide +kernel
theorem dX6_isOpen_2 : decode cX6_isOpen 2 = .ok (.iconst 2, 1) := by decide +kernel
theorem dX6_isOpen_3 : decode cX6_isOpen 3 = .ok (.invokevirtual 78, 3) := by decide +kernel
theorem dX6_isOpen_6 : decode cX6_isOpen 6 = .ok (.aload_n 0, 1) := by decide +kernel
theorem dX6_isOpen_7 : decode cX6_isOpen 7 = .ok (.getfield 7, 3) := by decide +kernel
theorem dX6_isOpen_10 : decode cX6_isOpen 10 = .ok (.iconst 0, 1) := by decide +kernel
theorem dX6_isOpen_11 : decode cX6_isOpen 11 = .ok (.iaload, 1) := by decide +kernel
theorem dX6_isOpen_12 : decode cX6_isOpen 12 = .ok (.if_icmp .gt 22, 3) := by decide +kernel
theorem dX6_isOpen_15 : decode cX6_isOpen 15 = .ok (.aload_n 0, 1) := by decide +kernel
theorem dX6_isOpen_16 : decode cX6_isOpen 16 = .ok (.getfield 7, 3) := by decide +kernel
theorem dX6_isOpen_19 : decode cX6_isOpen 19 = .ok (.iconst 0, 1) := by decide +kernel
theorem dX6_isOpen_20 : decode cX6_isOpen 20 = .ok (.iaload, 1) := by decide +kernel
theorem dX6_isOpen_21 : decode cX6_isOpen 21 = .ok (.aload_n 0, 1) := by decide +kernel
theorem dX6_isOpen_22 : decode cX6_isOpen 22 = .ok (.iload_n 1, 1) := by decide +kernel
theorem dX6_isOpen_23 : decode cX6_isOpen 23 = .ok (.iconst 3, 1) := by decide +kernel
theorem dX6_isOpen_24 : decode cX6_isOpen 24 = .ok (.invokevirtual 78, 3) := by decide +kernel
theorem dX6_isOpen_27 : decode cX6_isOpen 27 = .ok (.if_icmp .ge 7, 3) := by decide +kernel
theorem dX6_isOpen_30 : decode cX6_isOpen 30 = .ok (.iconst 1, 1) := by decide +kernel
theorem dX6_isOpen_31 : decode cX6_isOpen 31 = .ok (.goto 4, 3) := by decide +kernel
theorem dX6_isOpen_34 : decode cX6_isOpen 34 = .ok (.iconst 0, 1) := by decide +kernel
theorem dX6_isOpen_35 : decode cX6_isOpen 35 = .ok (.ireturn, 1) := by decide +kernel
theorem dX6_fits_0 : decode cX6_fits 0 = .ok (.aload_n 0, 1) := by decide +kernel
theorem dX6_fits_1 : decode cX6_fits 1 = .ok (.iload_n 1, 1) := by decide +kernel
theorem dX6_fits_2 : decode cX6_fits 2 = .ok (.iconst 0, 1) := by decide +kernel
theorem dX6_fits_3 : decode cX6_fits 3 = .ok (.invokevirtual 48, 3) := by decide +kernel
theorem dX6_fits_6 : decode cX6_fits 6 = .ok (.aload_n 0, 1) := by decide +kernel
theorem dX6_fits_7 : decode cX6_fits 7 = .ok (.iload_n 2, 1) := by decide +kernel
theorem dX6_fits_8 : decode cX6_fits 8 = .ok (.iconst 1, 1) := by decide +kernel
theorem dX6_fits_9 : decode cX6_fits 9 = .ok (.invokevirtual 78, 3) := by decide +kernel
theorem dX6_fits_12 : decode cX6_fits 12 = .ok (.if_icmp .lt 7, 3) := by decide +kernel
theorem dX6_fits_15 : decode cX6_fits 15 = .ok (.iconst 1, 1) := by decide +kernel
theorem dX6_fits_16 : decode cX6_fits 16 = .ok (.goto 4, 3) := by decide +kernel
theorem dX6_fits_19 : decode cX6_fits 19 = .ok (.iconst 0, 1) := by decide +kernel
theorem dX6_fits_20 : decode cX6_fits 20 = .ok (.ireturn, 1) := by decide +kernel
theorem dX6_comes_0 : decode cX6_comes 0 = .ok (.aload_n 0, 1) := by decide +kernel
theorem dX6_comes_1 : decode cX6_comes 1 = .ok (.iload_n 1, 1) := by decide +kernel
theorem dX6_comes_2 : decode cX6_comes 2 = .ok (.iconst 5, 1) := by decide +kernel
theorem dX6_comes_3 : decode cX6_comes 3 = .ok (.iload_n 2, 1) := by decide +kernel
theorem dX6_comes_4 : decode cX6_comes 4 = .ok (.iconst 1, 1) := by decide +kernel
theorem dX6_comes_5 : decode cX6_comes 5 = .ok (.iadd, 1) := by decide +kernel
theorem dX6_comes_6 : decode cX6_comes 6 = .ok (.invokevirtual 44, 3) := by decide +kernel
theorem dX6_comes_9 : decode cX6_comes 9 = .ok (.aload_n 0, 1) := by decide +kernel
theorem dX6_comes_10 : decode cX6_comes 10 = .ok (.iload_n 1, 1) := by decide +kernel
theorem dX6_comes_11 : decode cX6_comes 11 = .ok (.bipush 6, 2) := by decide +kernel
theorem dX6_comes_13 : decode cX6_comes 13 = .ok (.iconst 0, 1) := by decide +kernel
theorem dX6_comes_14 : decode cX6_comes 14 = .ok (.invokevirtual 44, 3) := by decide +kernel
theorem dX6_comes_17 : decode cX6_comes 17 = .ok (.aload_n 0, 1) := by decide +kernel
theorem dX6_comes_18 : decode cX6_comes 18 = .ok (.iload_n 1, 1) := by decide +kernel
theorem dX6_comes_19 : decode cX6_comes 19 = .ok (.bipush 7, 2) := by decide +kernel
theorem dX6_comes_21 : decode cX6_comes 21 = .ok (.iconst 0, 1) := by decide +kernel
theorem dX6_comes_22 : decode cX6_comes 22 = .ok (.invokevirtual 44, 3) := by decide +kernel
theorem dX6_comes_25 : decode cX6_comes 25 = .ok (.aload_n 0, 1) := by decide +kernel
theorem dX6_comes_26 : decode cX6_comes 26 = .ok (.iload_n 2, 1) := by decide +kernel
theorem dX6_comes_27 : decode cX6_comes 27 = .ok (.iconst 4, 1) := by decide +kernel
theorem dX6_comes_28 : decode cX6_comes 28 = .ok (.iload_n 1, 1) := by decide +kernel
theorem dX6_comes_29 : decode cX6_comes 29 = .ok (.iconst 1, 1) := by decide +kernel
theorem dX6_comes_30 : decode cX6_comes 30 = .ok (.iadd, 1) := by decide +kernel
theorem dX6_comes_31 : decode cX6_comes 31 = .ok (.invokevirtual 67, 3) := by decide +kernel
theorem dX6_comes_34 : decode cX6_comes 34 = .ok (.return_, 1) := by decide +kernel
theorem dX6_goesBack_0 : decode cX6_goesBack 0 = .ok (.aload_n 0, 1) := by decide +kernel
theorem dX6_goesBack_1 : decode cX6_goesBack 1 = .ok (.iload_n 1, 1) := by decide +kernel
theorem dX6_goesBack_2 : decode cX6_goesBack 2 = .ok (.invokevirtual 81, 3) := by decide +kernel
theorem dX6_goesBack_5 : decode cX6_goesBack 5 = .ok (.istore_n 2, 1) := by decide +kernel
theorem dX6_goesBack_6 : decode cX6_goesBack 6 = .ok (.aload_n 0, 1) := by decide +kernel
theorem dX6_goesBack_7 : decode cX6_goesBack 7 = .ok (.iload_n 2, 1) := by decide +kernel
theorem dX6_goesBack_8 : decode cX6_goesBack 8 = .ok (.iconst 5, 1) := by decide +kernel
theorem dX6_goesBack_9 : decode cX6_goesBack 9 = .ok (.iconst 0, 1) := by decide +kernel
theorem dX6_goesBack_10 : decode cX6_goesBack 10 = .ok (.invokevirtual 44, 3) := by decide +kernel
theorem dX6_goesBack_13 : decode cX6_goesBack 13 = .ok (.aload_n 0, 1) := by decide +kernel
theorem dX6_goesBack_14 : decode cX6_goesBack 14 = .ok (.iload_n 2, 1) := by decide +kernel
theorem dX6_goesBack_15 : decode cX6_goesBack 15 = .ok (.bipush 6, 2) := by decide +kernel
theorem dX6_goesBack_17 : decode cX6_goesBack 17 = .ok (.iconst 0, 1) := by decide +kernel
theorem dX6_goesBack_18 : decode cX6_goesBack 18 = .ok (.invokevirtual 44, 3) := by decide +kernel
theorem dX6_goesBack_21 : decode cX6_goesBack 21 = .ok (.aload_n 0, 1) := by decide +kernel
theorem dX6_goesBack_22 : decode cX6_goesBack 22 = .ok (.iload_n 2, 1) := by decide +kernel
theorem dX6_goesBack_23 : decode cX6_goesBack 23 = .ok (.bipush 7, 2) := by decide +kernel
theorem dX6_goesBack_25 : decode cX6_goesBack 25 = .ok (.iconst 0, 1) := by decide +kernel
theorem dX6_goesBack_26 : decode cX6_goesBack 26 = .ok (.invokevirtual 44, 3) := by decide +kernel
theorem dX6_goesBack_29 : decode cX6_goesBack 29 = .ok (.aload_n 0, 1) := by decide +kernel
theorem dX6_goesBack_30 : decode cX6_goesBack 30 = .ok (.iload_n 1, 1) := by decide +kernel
theorem dX6_goesBack_31 : decode cX6_goesBack 31 = .ok (.iconst 4, 1) := by decide +kernel
theorem dX6_goesBack_32 : decode cX6_goesBack 32 = .ok (.iconst 0, 1) := by decide +kernel
theorem dX6_goesBack_33 : decode cX6_goesBack 33 = .ok (.invokevirtual 67, 3) := by decide +kernel
theorem dX6_goesBack_36 : decode cX6_goesBack 36 = .ok (.return_, 1) := by decide +kernel
theorem dX6_inYard_0 : decode cX6_inYard 0 = .ok (.iconst 0, 1) := by decide +kernel
theorem dX6_inYard_1 : decode cX6_inYard 1 = .ok (.istore_n 1, 1) := by decide +kernel
theorem dX6_inYard_2 : decode cX6_inYard 2 = .ok (.iconst 0, 1) := by decide +kernel
theorem dX6_inYard_3 : decode cX6_inYard 3 = .ok (.istore_n 2, 1) := by decide +kernel
theorem dX6_inYard_4 : decode cX6_inYard 4 = .ok (.iload_n 2, 1) := by decide +kernel
theorem dX6_inYard_5 : decode cX6_inYard 5 = .ok (.aload_n 0, 1) := by decide +kernel
theorem dX6_inYard_6 : decode cX6_inYard 6 = .ok (.getfield 7, 3) := by decide +kernel
theorem dX6_inYard_9 : decode cX6_inYard 9 = .ok (.bipush 6, 2) := by decide +kernel
theorem dX6_inYard_11 : decode cX6_inYard 11 = .ok (.iaload, 1) := by decide +kernel
theorem dX6_inYard_12 : decode cX6_inYard 12 = .ok (.if_icmp .ge 26, 3) := by decide +kernel
theorem dX6_inYard_15 : decode cX6_inYard 15 = .ok (.iload_n 1, 1) := by decide +kernel
theorem dX6_inYard_16 : decode cX6_inYard 16 = .ok (.aload_n 0, 1) := by decide +kernel
theorem dX6_inYard_17 : decode cX6_inYard 17 = .ok (.iload_n 2, 1) := by decide +kernel
theorem dX6_inYard_18 : decode cX6_inYard 18 = .ok (.iconst 5, 1) := by decide +kernel
theorem dX6_inYard_19 : decode cX6_inYard 19 = .ok (.invokevirtual 48, 3) := by decide +kernel
theorem dX6_inYard_22 : decode cX6_inYard 22 = .ok (.ifCond .ne 7, 3) := by decide +kernel
theorem dX6_inYard_25 : decode cX6_inYard 25 = .ok (.iconst 1, 1) := by decide +kernel
theorem dX6_inYard_26 : decode cX6_inYard 26 = .ok (.goto 4, 3) := by decide +kernel
theorem dX6_inYard_29 : decode cX6_inYard 29 = .ok (.iconst 0, 1) := by decide +kernel
theorem dX6_inYard_30 : decode cX6_inYard 30 = .ok (.iadd, 1) := by decide +kernel
theorem dX6_inYard_31 : decode cX6_inYard 31 = .ok (.istore_n 1, 1) := by decide +kernel
theorem dX6_inYard_32 : decode cX6_inYard 32 = .ok (.iinc 2 1, 3) := by decide +kernel
theorem dX6_inYard_35 : decode cX6_inYard 35 = .ok (.goto (-31), 3) := by decide +kernel
theorem dX6_inYard_38 : decode cX6_inYard 38 = .ok (.iload_n 1, 1) := by decide +kernel
theorem dX6_inYard_39 : decode cX6_inYard 39 = .ok (.ireturn, 1) := by decide +kernel
theorem dX6_bring_0 : decode cX6_bring 0 = .ok (.aload_n 0, 1) := by decide +kernel
theorem dX6_bring_1 : decode cX6_bring 1 = .ok (.iload_n 1, 1) := by decide +kernel
theorem dX6_bring_2 : decode cX6_bring 2 = .ok (.invokevirtual 52, 3) := by decide +kernel
theorem dX6_bring_5 : decode cX6_bring 5 = .ok (.ifCond .ne 11, 3) := by decide +kernel
theorem dX6_bring_8 : decode cX6_bring 8 = .ok (.aload_n 0, 1) := by decide +kernel
theorem dX6_bring_9 : decode cX6_bring 9 = .ok (.iload_n 2, 1) := by decide +kernel
theorem dX6_bring_10 : decode cX6_bring 10 = .ok (.invokevirtual 84, 3) := by decide +kernel
theorem dX6_bring_13 : decode cX6_bring 13 = .ok (.ifCond .eq 5, 3) := by decide +kernel
theorem dX6_bring_16 : decode cX6_bring 16 = .ok (.iconst (-1), 1) := by decide +kernel
theorem dX6_bring_17 : decode cX6_bring 17 = .ok (.ireturn, 1) := by decide +kernel
theorem dX6_bring_18 : decode cX6_bring 18 = .ok (.aload_n 0, 1) := by decide +kernel
theorem dX6_bring_19 : decode cX6_bring 19 = .ok (.iload_n 1, 1) := by decide +kernel
theorem dX6_bring_20 : decode cX6_bring 20 = .ok (.iconst 5, 1) := by decide +kernel
theorem dX6_bring_21 : decode cX6_bring 21 = .ok (.invokevirtual 48, 3) := by decide +kernel
theorem dX6_bring_24 : decode cX6_bring 24 = .ok (.ifCond .gt 35, 3) := by decide +kernel
theorem dX6_bring_27 : decode cX6_bring 27 = .ok (.aload_n 0, 1) := by decide +kernel
theorem dX6_bring_28 : decode cX6_bring 28 = .ok (.iload_n 2, 1) := by decide +kernel
theorem dX6_bring_29 : decode cX6_bring 29 = .ok (.invokevirtual 81, 3) := by decide +kernel
theorem dX6_bring_32 : decode cX6_bring 32 = .ok (.ifCond .ge 27, 3) := by decide +kernel
theorem dX6_bring_35 : decode cX6_bring 35 = .ok (.aload_n 0, 1) := by decide +kernel
theorem dX6_bring_36 : decode cX6_bring 36 = .ok (.getfield 7, 3) := by decide +kernel
theorem dX6_bring_39 : decode cX6_bring 39 = .ok (.iconst 0, 1) := by decide +kernel
theorem dX6_bring_40 : decode cX6_bring 40 = .ok (.iaload, 1) := by decide +kernel
theorem dX6_bring_41 : decode cX6_bring 41 = .ok (.aload_n 0, 1) := by decide +kernel
theorem dX6_bring_42 : decode cX6_bring 42 = .ok (.iload_n 2, 1) := by decide +kernel
theorem dX6_bring_43 : decode cX6_bring 43 = .ok (.iconst 3, 1) := by decide +kernel
theorem dX6_bring_44 : decode cX6_bring 44 = .ok (.invokevirtual 78, 3) := by decide +kernel
theorem dX6_bring_47 : decode cX6_bring 47 = .ok (.if_icmp .ge 12, 3) := by decide +kernel
theorem dX6_bring_50 : decode cX6_bring 50 = .ok (.aload_n 0, 1) := by decide +kernel
theorem dX6_bring_51 : decode cX6_bring 51 = .ok (.iload_n 1, 1) := by decide +kernel
theorem dX6_bring_52 : decode cX6_bring 52 = .ok (.iload_n 2, 1) := by decide +kernel
theorem dX6_bring_53 : decode cX6_bring 53 = .ok (.invokevirtual 87, 3) := by decide +kernel
theorem dX6_bring_56 : decode cX6_bring 56 = .ok (.ifCond .ne 6, 3) := by decide +kernel
theorem dX6_bring_59 : decode cX6_bring 59 = .ok (.bipush (-4), 2) := by decide +kernel
theorem dX6_bring_61 : decode cX6_bring 61 = .ok (.ireturn, 1) := by decide +kernel
theorem dX6_bring_62 : decode cX6_bring 62 = .ok (.aload_n 0, 1) := by decide +kernel
theorem dX6_bring_63 : decode cX6_bring 63 = .ok (.invokevirtual 41, 3) := by decide +kernel
theorem dX6_bring_66 : decode cX6_bring 66 = .ok (.aload_n 0, 1) := by decide +kernel
theorem dX6_bring_67 : decode cX6_bring 67 = .ok (.iload_n 1, 1) := by decide +kernel
theorem dX6_bring_68 : decode cX6_bring 68 = .ok (.iload_n 2, 1) := by decide +kernel
theorem dX6_bring_69 : decode cX6_bring 69 = .ok (.invokevirtual 90, 3) := by decide +kernel
theorem dX6_bring_72 : decode cX6_bring 72 = .ok (.aload_n 0, 1) := by decide +kernel
theorem dX6_bring_73 : decode cX6_bring 73 = .ok (.invokevirtual 93, 3) := by decide +kernel
theorem dX6_bring_76 : decode cX6_bring 76 = .ok (.ireturn, 1) := by decide +kernel
theorem dX6_takeBack_0 : decode cX6_takeBack 0 = .ok (.aload_n 0, 1) := by decide +kernel
theorem dX6_takeBack_1 : decode cX6_takeBack 1 = .ok (.iload_n 1, 1) := by decide +kernel
theorem dX6_takeBack_2 : decode cX6_takeBack 2 = .ok (.invokevirtual 84, 3) := by decide +kernel
theorem dX6_takeBack_5 : decode cX6_takeBack 5 = .ok (.ifCond .eq 5, 3) := by decide +kernel
theorem dX6_takeBack_8 : decode cX6_takeBack 8 = .ok (.iconst (-1), 1) := by decide +kernel
theorem dX6_takeBack_9 : decode cX6_takeBack 9 = .ok (.ireturn, 1) := by decide +kernel
theorem dX6_takeBack_10 : decode cX6_takeBack 10 = .ok (.aload_n 0, 1) := by decide +kernel
theorem dX6_takeBack_11 : decode cX6_takeBack 11 = .ok (.iload_n 1, 1) := by decide +kernel
theorem dX6_takeBack_12 : decode cX6_takeBack 12 = .ok (.invokevirtual 81, 3) := by decide +kernel
theorem dX6_takeBack_15 : decode cX6_takeBack 15 = .ok (.istore_n 2, 1) := by decide +kernel
theorem dX6_takeBack_16 : decode cX6_takeBack 16 = .ok (.iload_n 2, 1) := by decide +kernel
theorem dX6_takeBack_17 : decode cX6_takeBack 17 = .ok (.ifCond .ge 6, 3) := by decide +kernel
theorem dX6_takeBack_20 : decode cX6_takeBack 20 = .ok (.bipush (-5), 2) := by decide +kernel
theorem dX6_takeBack_22 : decode cX6_takeBack 22 = .ok (.ireturn, 1) := by decide +kernel
theorem dX6_takeBack_23 : decode cX6_takeBack 23 = .ok (.aload_n 0, 1) := by decide +kernel
theorem dX6_takeBack_24 : decode cX6_takeBack 24 = .ok (.invokevirtual 41, 3) := by decide +kernel
theorem dX6_takeBack_27 : decode cX6_takeBack 27 = .ok (.aload_n 0, 1) := by decide +kernel
theorem dX6_takeBack_28 : decode cX6_takeBack 28 = .ok (.iload_n 1, 1) := by decide +kernel
theorem dX6_takeBack_29 : decode cX6_takeBack 29 = .ok (.invokevirtual 97, 3) := by decide +kernel
theorem dX6_takeBack_32 : decode cX6_takeBack 32 = .ok (.iload_n 2, 1) := by decide +kernel
theorem dX6_takeBack_33 : decode cX6_takeBack 33 = .ok (.ireturn, 1) := by decide +kernel
theorem dX6_isNeedier_0 : decode cX6_isNeedier 0 = .ok (.aload_n 0, 1) := by decide +kernel
theorem dX6_isNeedier_1 : decode cX6_isNeedier 1 = .ok (.iload_n 1, 1) := by decide +kernel
theorem dX6_isNeedier_2 : decode cX6_isNeedier 2 = .ok (.iconst 0, 1) := by decide +kernel
theorem dX6_isNeedier_3 : decode cX6_isNeedier 3 = .ok (.invokevirtual 78, 3) := by decide +kernel
theorem dX6_isNeedier_6 : decode cX6_isNeedier 6 = .ok (.aload_n 0, 1) := by decide +kernel
theorem dX6_isNeedier_7 : decode cX6_isNeedier 7 = .ok (.iload_n 2, 1) := by decide +kernel
theorem dX6_isNeedier_8 : decode cX6_isNeedier 8 = .ok (.iconst 0, 1) := by decide +kernel
theorem dX6_isNeedier_9 : decode cX6_isNeedier 9 = .ok (.invokevirtual 78, 3) := by decide +kernel
theorem dX6_isNeedier_12 : decode cX6_isNeedier 12 = .ok (.if_icmp .eq 24, 3) := by decide +kernel
theorem dX6_isNeedier_15 : decode cX6_isNeedier 15 = .ok (.aload_n 0, 1) := by decide +kernel
theorem dX6_isNeedier_16 : decode cX6_isNeedier 16 = .ok (.iload_n 1, 1) := by decide +kernel
theorem dX6_isNeedier_17 : decode cX6_isNeedier 17 = .ok (.iconst 0, 1) := by decide +kernel
theorem dX6_isNeedier_18 : decode cX6_isNeedier 18 = .ok (.invokevirtual 78, 3) := by decide +kernel
theorem dX6_isNeedier_21 : decode cX6_isNeedier 21 = .ok (.aload_n 0, 1) := by decide +kernel
theorem dX6_isNeedier_22 : decode cX6_isNeedier 22 = .ok (.iload_n 2, 1) := by decide +kernel
theorem dX6_isNeedier_23 : decode cX6_isNeedier 23 = .ok (.iconst 0, 1) := by decide +kernel
theorem dX6_isNeedier_24 : decode cX6_isNeedier 24 = .ok (.invokevirtual 78, 3) := by decide +kernel
theorem dX6_isNeedier_27 : decode cX6_isNeedier 27 = .ok (.if_icmp .le 7, 3) := by decide +kernel
theorem dX6_isNeedier_30 : decode cX6_isNeedier 30 = .ok (.iconst 1, 1) := by decide +kernel
theorem dX6_isNeedier_31 : decode cX6_isNeedier 31 = .ok (.goto 4, 3) := by decide +kernel
theorem dX6_isNeedier_34 : decode cX6_isNeedier 34 = .ok (.iconst 0, 1) := by decide +kernel
theorem dX6_isNeedier_35 : decode cX6_isNeedier 35 = .ok (.ireturn, 1) := by decide +kernel
theorem dX6_isNeedier_36 : decode cX6_isNeedier 36 = .ok (.aload_n 0, 1) := by decide +kernel
theorem dX6_isNeedier_37 : decode cX6_isNeedier 37 = .ok (.iload_n 1, 1) := by decide +kernel
theorem dX6_isNeedier_38 : decode cX6_isNeedier 38 = .ok (.iconst 1, 1) := by decide +kernel
theorem dX6_isNeedier_39 : decode cX6_isNeedier 39 = .ok (.invokevirtual 78, 3) := by decide +kernel
theorem dX6_isNeedier_42 : decode cX6_isNeedier 42 = .ok (.aload_n 0, 1) := by decide +kernel
theorem dX6_isNeedier_43 : decode cX6_isNeedier 43 = .ok (.iload_n 2, 1) := by decide +kernel
theorem dX6_isNeedier_44 : decode cX6_isNeedier 44 = .ok (.iconst 1, 1) := by decide +kernel
theorem dX6_isNeedier_45 : decode cX6_isNeedier 45 = .ok (.invokevirtual 78, 3) := by decide +kernel
theorem dX6_isNeedier_48 : decode cX6_isNeedier 48 = .ok (.if_icmp .eq 26, 3) := by decide +kernel
theorem dX6_isNeedier_51 : decode cX6_isNeedier 51 = .ok (.aload_n 0, 1) := by decide +kernel
theorem dX6_isNeedier_52 : decode cX6_isNeedier 52 = .ok (.iload_n 1, 1) := by decide +kernel
theorem dX6_isNeedier_53 : decode cX6_isNeedier 53 = .ok (.iconst 1, 1) := by decide +kernel
theorem dX6_isNeedier_54 : decode cX6_isNeedier 54 = .ok (.invokevirtual 78, 3) := by decide +kernel
theorem dX6_isNeedier_57 : decode cX6_isNeedier 57 = .ok (.aload_n 0, 1) := by decide +kernel
theorem dX6_isNeedier_58 : decode cX6_isNeedier 58 = .ok (.iload_n 2, 1) := by decide +kernel
theorem dX6_isNeedier_59 : decode cX6_isNeedier 59 = .ok (.iconst 1, 1) := by decide +kernel
theorem dX6_isNeedier_60 : decode cX6_isNeedier 60 = .ok (.invokevirtual 78, 3) := by decide +kernel
theorem dX6_isNeedier_63 : decode cX6_isNeedier 63 = .ok (.if_icmp .le 7, 3) := by decide +kernel
theorem dX6_isNeedier_66 : decode cX6_isNeedier 66 = .ok (.iconst 1, 1) := by decide +kernel
theorem dX6_isNeedier_67 : decode cX6_isNeedier 67 = .ok (.goto 17, 3) := by decide +kernel
theorem dX6_isNeedier_70 : decode cX6_isNeedier 70 = .ok (.iconst 0, 1) := by decide +kernel
theorem dX6_isNeedier_71 : decode cX6_isNeedier 71 = .ok (.goto 13, 3) := by decide +kernel
theorem dX6_isNeedier_74 : decode cX6_isNeedier 74 = .ok (.iload_n 1, 1) := by decide +kernel
theorem dX6_isNeedier_75 : decode cX6_isNeedier 75 = .ok (.iload_n 2, 1) := by decide +kernel
theorem dX6_isNeedier_76 : decode cX6_isNeedier 76 = .ok (.if_icmp .ge 7, 3) := by decide +kernel
theorem dX6_isNeedier_79 : decode cX6_isNeedier 79 = .ok (.iconst 1, 1) := by decide +kernel
theorem dX6_isNeedier_80 : decode cX6_isNeedier 80 = .ok (.goto 4, 3) := by decide +kernel
theorem dX6_isNeedier_83 : decode cX6_isNeedier 83 = .ok (.iconst 0, 1) := by decide +kernel
theorem dX6_isNeedier_84 : decode cX6_isNeedier 84 = .ok (.ireturn, 1) := by decide +kernel
theorem dX6_needyAt_0 : decode cX6_needyAt 0 = .ok (.iconst 0, 1) := by decide +kernel
theorem dX6_needyAt_1 : decode cX6_needyAt 1 = .ok (.istore_n 2, 1) := by decide +kernel
theorem dX6_needyAt_2 : decode cX6_needyAt 2 = .ok (.iload_n 2, 1) := by decide +kernel
theorem dX6_needyAt_3 : decode cX6_needyAt 3 = .ok (.aload_n 0, 1) := by decide +kernel
theorem dX6_needyAt_4 : decode cX6_needyAt 4 = .ok (.getfield 7, 3) := by decide +kernel
theorem dX6_needyAt_7 : decode cX6_needyAt 7 = .ok (.bipush 7, 2) := by decide +kernel
theorem dX6_needyAt_9 : decode cX6_needyAt 9 = .ok (.iaload, 1) := by decide +kernel
theorem dX6_needyAt_10 : decode cX6_needyAt 10 = .ok (.if_icmp .ge 80, 3) := by decide +kernel
theorem dX6_needyAt_13 : decode cX6_needyAt 13 = .ok (.iconst 0, 1) := by decide +kernel
theorem dX6_needyAt_14 : decode cX6_needyAt 14 = .ok (.istore_n 3, 1) := by decide +kernel
theorem dX6_needyAt_15 : decode cX6_needyAt 15 = .ok (.iconst 0, 1) := by decide +kernel
theorem dX6_needyAt_16 : decode cX6_needyAt 16 = .ok (.istore 4, 2) := by decide +kernel
theorem dX6_needyAt_18 : decode cX6_needyAt 18 = .ok (.iload 4, 2) := by decide +kernel
theorem dX6_needyAt_20 : decode cX6_needyAt 20 = .ok (.aload_n 0, 1) := by decide +kernel
theorem dX6_needyAt_21 : decode cX6_needyAt 21 = .ok (.getfield 7, 3) := by decide +kernel
theorem dX6_needyAt_24 : decode cX6_needyAt 24 = .ok (.bipush 7, 2) := by decide +kernel
theorem dX6_needyAt_26 : decode cX6_needyAt 26 = .ok (.iaload, 1) := by decide +kernel
theorem dX6_needyAt_27 : decode cX6_needyAt 27 = .ok (.if_icmp .ge 42, 3) := by decide +kernel
theorem dX6_needyAt_30 : decode cX6_needyAt 30 = .ok (.iload_n 3, 1) := by decide +kernel
theorem dX6_needyAt_31 : decode cX6_needyAt 31 = .ok (.iload 4, 2) := by decide +kernel
theorem dX6_needyAt_33 : decode cX6_needyAt 33 = .ok (.iload_n 2, 1) := by decide +kernel
theorem dX6_needyAt_34 : decode cX6_needyAt 34 = .ok (.if_icmp .eq 26, 3) := by decide +kernel
theorem dX6_needyAt_37 : decode cX6_needyAt 37 = .ok (.aload_n 0, 1) := by decide +kernel
theorem dX6_needyAt_38 : decode cX6_needyAt 38 = .ok (.iload 4, 2) := by decide +kernel
theorem dX6_needyAt_40 : decode cX6_needyAt 40 = .ok (.invokevirtual 101, 3) := by decide +kernel
theorem dX6_needyAt_43 : decode cX6_needyAt 43 = .ok (.ifCond .eq 17, 3) := by decide +kernel
theorem dX6_needyAt_46 : decode cX6_needyAt 46 = .ok (.aload_n 0, 1) := by decide +kernel
theorem dX6_needyAt_47 : decode cX6_needyAt 47 = .ok (.iload 4, 2) := by decide +kernel
theorem dX6_needyAt_49 : decode cX6_needyAt 49 = .ok (.iload_n 2, 1) := by decide +kernel
theorem dX6_needyAt_50 : decode cX6_needyAt 50 = .ok (.invokevirtual 104, 3) := by decide +kernel
theorem dX6_needyAt_53 : decode cX6_needyAt 53 = .ok (.ifCond .eq 7, 3) := by decide +kernel
theorem dX6_needyAt_56 : decode cX6_needyAt 56 = .ok (.iconst 1, 1) := by decide +kernel
theorem dX6_needyAt_57 : decode cX6_needyAt 57 = .ok (.goto 4, 3) := by decide +kernel
theorem dX6_needyAt_60 : decode cX6_needyAt 60 = .ok (.iconst 0, 1) := by decide +kernel
theorem dX6_needyAt_61 : decode cX6_needyAt 61 = .ok (.iadd, 1) := by decide +kernel
theorem dX6_needyAt_62 : decode cX6_needyAt 62 = .ok (.istore_n 3, 1) := by decide +kernel
theorem dX6_needyAt_63 : decode cX6_needyAt 63 = .ok (.iinc 4 1, 3) := by decide +kernel
theorem dX6_needyAt_66 : decode cX6_needyAt 66 = .ok (.goto (-48), 3) := by decide +kernel
theorem dX6_needyAt_69 : decode cX6_needyAt 69 = .ok (.aload_n 0, 1) := by decide +kernel
theorem dX6_needyAt_70 : decode cX6_needyAt 70 = .ok (.iload_n 2, 1) := by decide +kernel
theorem dX6_needyAt_71 : decode cX6_needyAt 71 = .ok (.invokevirtual 101, 3) := by decide +kernel
theorem dX6_needyAt_74 : decode cX6_needyAt 74 = .ok (.ifCond .eq 10, 3) := by decide +kernel
theorem dX6_needyAt_77 : decode cX6_needyAt 77 = .ok (.iload_n 3, 1) := by decide +kernel
theorem dX6_needyAt_78 : decode cX6_needyAt 78 = .ok (.iload_n 1, 1) := by decide +kernel
theorem dX6_needyAt_79 : decode cX6_needyAt 79 = .ok (.if_icmp .ne 5, 3) := by decide +kernel
theorem dX6_needyAt_82 : decode cX6_needyAt 82 = .ok (.iload_n 2, 1) := by decide +kernel
theorem dX6_needyAt_83 : decode cX6_needyAt 83 = .ok (.ireturn, 1) := by decide +kernel
theorem dX6_needyAt_84 : decode cX6_needyAt 84 = .ok (.iinc 2 1, 3) := by decide +kernel
theorem dX6_needyAt_87 : decode cX6_needyAt 87 = .ok (.goto (-85), 3) := by decide +kernel
theorem dX6_needyAt_90 : decode cX6_needyAt 90 = .ok (.bipush (-5), 2) := by decide +kernel
theorem dX6_needyAt_92 : decode cX6_needyAt 92 = .ok (.ireturn, 1) := by decide +kernel
theorem dX6_yardFor_0 : decode cX6_yardFor 0 = .ok (.bipush (-5), 2) := by decide +kernel
theorem dX6_yardFor_2 : decode cX6_yardFor 2 = .ok (.istore_n 2, 1) := by decide +kernel
theorem dX6_yardFor_3 : decode cX6_yardFor 3 = .ok (.iconst 0, 1) := by decide +kernel
theorem dX6_yardFor_4 : decode cX6_yardFor 4 = .ok (.istore_n 3, 1) := by decide +kernel
theorem dX6_yardFor_5 : decode cX6_yardFor 5 = .ok (.iload_n 3, 1) := by decide +kernel
theorem dX6_yardFor_6 : decode cX6_yardFor 6 = .ok (.aload_n 0, 1) := by decide +kernel
theorem dX6_yardFor_7 : decode cX6_yardFor 7 = .ok (.getfield 7, 3) := by decide +kernel
theorem dX6_yardFor_10 : decode cX6_yardFor 10 = .ok (.bipush 6, 2) := by decide +kernel
theorem dX6_yardFor_12 : decode cX6_yardFor 12 = .ok (.iaload, 1) := by decide +kernel
theorem dX6_yardFor_13 : decode cX6_yardFor 13 = .ok (.if_icmp .ge 66, 3) := by decide +kernel
theorem dX6_yardFor_16 : decode cX6_yardFor 16 = .ok (.aload_n 0, 1) := by decide +kernel
theorem dX6_yardFor_17 : decode cX6_yardFor 17 = .ok (.iload_n 3, 1) := by decide +kernel
theorem dX6_yardFor_18 : decode cX6_yardFor 18 = .ok (.iconst 5, 1) := by decide +kernel
theorem dX6_yardFor_19 : decode cX6_yardFor 19 = .ok (.invokevirtual 48, 3) := by decide +kernel
theorem dX6_yardFor_22 : decode cX6_yardFor 22 = .ok (.ifCond .ne 16, 3) := by decide +kernel
theorem dX6_yardFor_25 : decode cX6_yardFor 25 = .ok (.aload_n 0, 1) := by decide +kernel
theorem dX6_yardFor_26 : decode cX6_yardFor 26 = .ok (.iload_n 3, 1) := by decide +kernel
theorem dX6_yardFor_27 : decode cX6_yardFor 27 = .ok (.iload_n 1, 1) := by decide +kernel
theorem dX6_yardFor_28 : decode cX6_yardFor 28 = .ok (.invokevirtual 87, 3) := by decide +kernel
theorem dX6_yardFor_31 : decode cX6_yardFor 31 = .ok (.ifCond .eq 7, 3) := by decide +kernel
theorem dX6_yardFor_34 : decode cX6_yardFor 34 = .ok (.iconst 1, 1) := by decide +kernel
theorem dX6_yardFor_35 : decode cX6_yardFor 35 = .ok (.goto 4, 3) := by decide +kernel
theorem dX6_yardFor_38 : decode cX6_yardFor 38 = .ok (.iconst 0, 1) := by decide +kernel
theorem dX6_yardFor_39 : decode cX6_yardFor 39 = .ok (.istore 4, 2) := by decide +kernel
theorem dX6_yardFor_41 : decode cX6_yardFor 41 = .ok (.iload 4, 2) := by decide +kernel
theorem dX6_yardFor_43 : decode cX6_yardFor 43 = .ok (.ifCond .eq 28, 3) := by decide +kernel
theorem dX6_yardFor_46 : decode cX6_yardFor 46 = .ok (.iload_n 2, 1) := by decide +kernel
theorem dX6_yardFor_47 : decode cX6_yardFor 47 = .ok (.bipush (-5), 2) := by decide +kernel
theorem dX6_yardFor_49 : decode cX6_yardFor 49 = .ok (.if_icmp .eq 18, 3) := by decide +kernel
theorem dX6_yardFor_52 : decode cX6_yardFor 52 = .ok (.aload_n 0, 1) := by decide +kernel
theorem dX6_yardFor_53 : decode cX6_yardFor 53 = .ok (.iload_n 3, 1) := by decide +kernel
theorem dX6_yardFor_54 : decode cX6_yardFor 54 = .ok (.iconst 0, 1) := by decide +kernel
theorem dX6_yardFor_55 : decode cX6_yardFor 55 = .ok (.invokevirtual 48, 3) := by decide +kernel
theorem dX6_yardFor_58 : decode cX6_yardFor 58 = .ok (.aload_n 0, 1) := by decide +kernel
theorem dX6_yardFor_59 : decode cX6_yardFor 59 = .ok (.iload_n 2, 1) := by decide +kernel
theorem dX6_yardFor_60 : decode cX6_yardFor 60 = .ok (.iconst 0, 1) := by decide +kernel
theorem dX6_yardFor_61 : decode cX6_yardFor 61 = .ok (.invokevirtual 48, 3) := by decide +kernel
theorem dX6_yardFor_64 : decode cX6_yardFor 64 = .ok (.if_icmp .ge 7, 3) := by decide +kernel
theorem dX6_yardFor_67 : decode cX6_yardFor 67 = .ok (.iload_n 3, 1) := by decide +kernel
theorem dX6_yardFor_68 : decode cX6_yardFor 68 = .ok (.goto 4, 3) := by decide +kernel
theorem dX6_yardFor_71 : decode cX6_yardFor 71 = .ok (.iload_n 2, 1) := by decide +kernel
theorem dX6_yardFor_72 : decode cX6_yardFor 72 = .ok (.istore_n 2, 1) := by decide +kernel
theorem dX6_yardFor_73 : decode cX6_yardFor 73 = .ok (.iinc 3 1, 3) := by decide +kernel
theorem dX6_yardFor_76 : decode cX6_yardFor 76 = .ok (.goto (-71), 3) := by decide +kernel
theorem dX6_yardFor_79 : decode cX6_yardFor 79 = .ok (.iload_n 2, 1) := by decide +kernel
theorem dX6_yardFor_80 : decode cX6_yardFor 80 = .ok (.ireturn, 1) := by decide +kernel
theorem dX6_wants_0 : decode cX6_wants 0 = .ok (.aload_n 0, 1) := by decide +kernel
theorem dX6_wants_1 : decode cX6_wants 1 = .ok (.iload_n 1, 1) := by decide +kernel
theorem dX6_wants_2 : decode cX6_wants 2 = .ok (.invokevirtual 81, 3) := by decide +kernel
theorem dX6_wants_5 : decode cX6_wants 5 = .ok (.ifCond .ge 7, 3) := by decide +kernel
theorem dX6_wants_8 : decode cX6_wants 8 = .ok (.iconst 1, 1) := by decide +kernel
theorem dX6_wants_9 : decode cX6_wants 9 = .ok (.goto 4, 3) := by decide +kernel
theorem dX6_wants_12 : decode cX6_wants 12 = .ok (.iconst 0, 1) := by decide +kernel
theorem dX6_wants_13 : decode cX6_wants 13 = .ok (.ireturn, 1) := by decide +kernel
theorem dX6_giveOut_0 : decode cX6_giveOut 0 = .ok (.iconst 0, 1) := by decide +kernel
theorem dX6_giveOut_1 : decode cX6_giveOut 1 = .ok (.istore_n 1, 1) := by decide +kernel
theorem dX6_giveOut_2 : decode cX6_giveOut 2 = .ok (.iconst 0, 1) := by decide +kernel
theorem dX6_giveOut_3 : decode cX6_giveOut 3 = .ok (.istore_n 2, 1) := by decide +kernel
theorem dX6_giveOut_4 : decode cX6_giveOut 4 = .ok (.iload_n 2, 1) := by decide +kernel
theorem dX6_giveOut_5 : decode cX6_giveOut 5 = .ok (.aload_n 0, 1) := by decide +kernel
theorem dX6_giveOut_6 : decode cX6_giveOut 6 = .ok (.getfield 7, 3) := by decide +kernel
theorem dX6_giveOut_9 : decode cX6_giveOut 9 = .ok (.bipush 7, 2) := by decide +kernel
theorem dX6_giveOut_11 : decode cX6_giveOut 11 = .ok (.iaload, 1) := by decide +kernel
theorem dX6_giveOut_12 : decode cX6_giveOut 12 = .ok (.if_icmp .ge 45, 3) := by decide +kernel
theorem dX6_giveOut_15 : decode cX6_giveOut 15 = .ok (.iload_n 1, 1) := by decide +kernel
theorem dX6_giveOut_16 : decode cX6_giveOut 16 = .ok (.ifCond .ne 29, 3) := by decide +kernel
theorem dX6_giveOut_19 : decode cX6_giveOut 19 = .ok (.aload_n 0, 1) := by decide +kernel
theorem dX6_giveOut_20 : decode cX6_giveOut 20 = .ok (.iload_n 2, 1) := by decide +kernel
theorem dX6_giveOut_21 : decode cX6_giveOut 21 = .ok (.invokevirtual 101, 3) := by decide +kernel
theorem dX6_giveOut_24 : decode cX6_giveOut 24 = .ok (.ifCond .eq 25, 3) := by decide +kernel
theorem dX6_giveOut_27 : decode cX6_giveOut 27 = .ok (.aload_n 0, 1) := by decide +kernel
theorem dX6_giveOut_28 : decode cX6_giveOut 28 = .ok (.iload_n 2, 1) := by decide +kernel
theorem dX6_giveOut_29 : decode cX6_giveOut 29 = .ok (.invokevirtual 107, 3) := by decide +kernel
theorem dX6_giveOut_32 : decode cX6_giveOut 32 = .ok (.ifCond .eq 17, 3) := by decide +kernel
theorem dX6_giveOut_35 : decode cX6_giveOut 35 = .ok (.aload_n 0, 1) := by decide +kernel
theorem dX6_giveOut_36 : decode cX6_giveOut 36 = .ok (.iload_n 2, 1) := by decide +kernel
theorem dX6_giveOut_37 : decode cX6_giveOut 37 = .ok (.invokevirtual 110, 3) := by decide +kernel
theorem dX6_giveOut_40 : decode cX6_giveOut 40 = .ok (.bipush (-5), 2) := by decide +kernel
theorem dX6_giveOut_42 : decode cX6_giveOut 42 = .ok (.if_icmp .eq 7, 3) := by decide +kernel
theorem dX6_giveOut_45 : decode cX6_giveOut 45 = .ok (.iconst 1, 1) := by decide +kernel
theorem dX6_giveOut_46 : decode cX6_giveOut 46 = .ok (.goto 4, 3) := by decide +kernel
theorem dX6_giveOut_49 : decode cX6_giveOut 49 = .ok (.iconst 0, 1) := by decide +kernel
theorem dX6_giveOut_50 : decode cX6_giveOut 50 = .ok (.istore_n 1, 1) := by decide +kernel
theorem dX6_giveOut_51 : decode cX6_giveOut 51 = .ok (.iinc 2 1, 3) := by decide +kernel
theorem dX6_giveOut_54 : decode cX6_giveOut 54 = .ok (.goto (-50), 3) := by decide +kernel
theorem dX6_giveOut_57 : decode cX6_giveOut 57 = .ok (.iload_n 1, 1) := by decide +kernel
theorem dX6_giveOut_58 : decode cX6_giveOut 58 = .ok (.ifCond .ne 6, 3) := by decide +kernel
theorem dX6_giveOut_61 : decode cX6_giveOut 61 = .ok (.bipush (-5), 2) := by decide +kernel
theorem dX6_giveOut_63 : decode cX6_giveOut 63 = .ok (.ireturn, 1) := by decide +kernel
theorem dX6_giveOut_64 : decode cX6_giveOut 64 = .ok (.aload_n 0, 1) := by decide +kernel
theorem dX6_giveOut_65 : decode cX6_giveOut 65 = .ok (.invokevirtual 41, 3) := by decide +kernel
theorem dX6_giveOut_68 : decode cX6_giveOut 68 = .ok (.iconst 0, 1) := by decide +kernel
theorem dX6_giveOut_69 : decode cX6_giveOut 69 = .ok (.istore_n 2, 1) := by decide +kernel
theorem dX6_giveOut_70 : decode cX6_giveOut 70 = .ok (.iconst 0, 1) := by decide +kernel
theorem dX6_giveOut_71 : decode cX6_giveOut 71 = .ok (.istore_n 3, 1) := by decide +kernel
theorem dX6_giveOut_72 : decode cX6_giveOut 72 = .ok (.aload_n 0, 1) := by decide +kernel
theorem dX6_giveOut_73 : decode cX6_giveOut 73 = .ok (.iconst 0, 1) := by decide +kernel
theorem dX6_giveOut_74 : decode cX6_giveOut 74 = .ok (.invokevirtual 113, 3) := by decide +kernel
theorem dX6_giveOut_77 : decode cX6_giveOut 77 = .ok (.istore 4, 2) := by decide +kernel
theorem dX6_giveOut_79 : decode cX6_giveOut 79 = .ok (.iload 4, 2) := by decide +kernel
theorem dX6_giveOut_81 : decode cX6_giveOut 81 = .ok (.bipush (-5), 2) := by decide +kernel
theorem dX6_giveOut_83 : decode cX6_giveOut 83 = .ok (.if_icmp .eq 56, 3) := by decide +kernel
theorem dX6_giveOut_86 : decode cX6_giveOut 86 = .ok (.aload_n 0, 1) := by decide +kernel
theorem dX6_giveOut_87 : decode cX6_giveOut 87 = .ok (.iload 4, 2) := by decide +kernel
theorem dX6_giveOut_89 : decode cX6_giveOut 89 = .ok (.invokevirtual 107, 3) := by decide +kernel
theorem dX6_giveOut_92 : decode cX6_giveOut 92 = .ok (.ifCond .eq 12, 3) := by decide +kernel
theorem dX6_giveOut_95 : decode cX6_giveOut 95 = .ok (.aload_n 0, 1) := by decide +kernel
theorem dX6_giveOut_96 : decode cX6_giveOut 96 = .ok (.iload 4, 2) := by decide +kernel
theorem dX6_giveOut_98 : decode cX6_giveOut 98 = .ok (.invokevirtual 110, 3) := by decide +kernel
theorem dX6_giveOut_101 : decode cX6_giveOut 101 = .ok (.goto 5, 3) := by decide +kernel
theorem dX6_giveOut_104 : decode cX6_giveOut 104 = .ok (.bipush (-5), 2) := by decide +kernel
theorem dX6_giveOut_106 : decode cX6_giveOut 106 = .ok (.istore 5, 2) := by decide +kernel
theorem dX6_giveOut_108 : decode cX6_giveOut 108 = .ok (.iload 5, 2) := by decide +kernel
theorem dX6_giveOut_110 : decode cX6_giveOut 110 = .ok (.bipush (-5), 2) := by decide +kernel
theorem dX6_giveOut_112 : decode cX6_giveOut 112 = .ok (.if_icmp .eq 14, 3) := by decide +kernel
theorem dX6_giveOut_115 : decode cX6_giveOut 115 = .ok (.aload_n 0, 1) := by decide +kernel
theorem dX6_giveOut_116 : decode cX6_giveOut 116 = .ok (.iload 5, 2) := by decide +kernel
theorem dX6_giveOut_118 : decode cX6_giveOut 118 = .ok (.iload 4, 2) := by decide +kernel
theorem dX6_giveOut_120 : decode cX6_giveOut 120 = .ok (.invokevirtual 90, 3) := by decide +kernel
theorem dX6_giveOut_123 : decode cX6_giveOut 123 = .ok (.iinc 2 1, 3) := by decide +kernel
theorem dX6_giveOut_126 : decode cX6_giveOut 126 = .ok (.iinc 3 1, 3) := by decide +kernel
theorem dX6_giveOut_129 : decode cX6_giveOut 129 = .ok (.aload_n 0, 1) := by decide +kernel
theorem dX6_giveOut_130 : decode cX6_giveOut 130 = .ok (.iload_n 3, 1) := by decide +kernel
theorem dX6_giveOut_131 : decode cX6_giveOut 131 = .ok (.invokevirtual 113, 3) := by decide +kernel
theorem dX6_giveOut_134 : decode cX6_giveOut 134 = .ok (.istore 4, 2) := by decide +kernel
theorem dX6_giveOut_136 : decode cX6_giveOut 136 = .ok (.goto (-57), 3) := by decide +kernel
theorem dX6_giveOut_139 : decode cX6_giveOut 139 = .ok (.iload_n 2, 1) := by decide +kernel
theorem dX6_giveOut_140 : decode cX6_giveOut 140 = .ok (.ireturn, 1) := by decide +kernel
theorem dX6_partnerOf_0 : decode cX6_partnerOf 0 = .ok (.bipush (-5), 2) := by decide +kernel
theorem dX6_partnerOf_2 : decode cX6_partnerOf 2 = .ok (.istore_n 2, 1) := by decide +kernel
theorem dX6_partnerOf_3 : decode cX6_partnerOf 3 = .ok (.iconst 0, 1) := by decide +kernel
theorem dX6_partnerOf_4 : decode cX6_partnerOf 4 = .ok (.istore_n 3, 1) := by decide +kernel
theorem dX6_partnerOf_5 : decode cX6_partnerOf 5 = .ok (.iload_n 3, 1) := by decide +kernel
theorem dX6_partnerOf_6 : decode cX6_partnerOf 6 = .ok (.aload_n 0, 1) := by decide +kernel
theorem dX6_partnerOf_7 : decode cX6_partnerOf 7 = .ok (.getfield 7, 3) := by decide +kernel
theorem dX6_partnerOf_10 : decode cX6_partnerOf 10 = .ok (.bipush 7, 2) := by decide +kernel
theorem dX6_partnerOf_12 : decode cX6_partnerOf 12 = .ok (.iaload, 1) := by decide +kernel
theorem dX6_partnerOf_13 : decode cX6_partnerOf 13 = .ok (.if_icmp .ge 87, 3) := by decide +kernel
theorem dX6_partnerOf_16 : decode cX6_partnerOf 16 = .ok (.aload_n 0, 1) := by decide +kernel
theorem dX6_partnerOf_17 : decode cX6_partnerOf 17 = .ok (.iload_n 3, 1) := by decide +kernel
theorem dX6_partnerOf_18 : decode cX6_partnerOf 18 = .ok (.invokevirtual 81, 3) := by decide +kernel
theorem dX6_partnerOf_21 : decode cX6_partnerOf 21 = .ok (.ifCond .lt 30, 3) := by decide +kernel
theorem dX6_partnerOf_24 : decode cX6_partnerOf 24 = .ok (.aload_n 0, 1) := by decide +kernel
theorem dX6_partnerOf_25 : decode cX6_partnerOf 25 = .ok (.aload_n 0, 1) := by decide +kernel
theorem dX6_partnerOf_26 : decode cX6_partnerOf 26 = .ok (.iload_n 3, 1) := by decide +kernel
theorem dX6_partnerOf_27 : decode cX6_partnerOf 27 = .ok (.invokevirtual 81, 3) := by decide +kernel
theorem dX6_partnerOf_30 : decode cX6_partnerOf 30 = .ok (.iload_n 1, 1) := by decide +kernel
theorem dX6_partnerOf_31 : decode cX6_partnerOf 31 = .ok (.invokevirtual 87, 3) := by decide +kernel
theorem dX6_partnerOf_34 : decode cX6_partnerOf 34 = .ok (.ifCond .eq 17, 3) := by decide +kernel
theorem dX6_partnerOf_37 : decode cX6_partnerOf 37 = .ok (.aload_n 0, 1) := by decide +kernel
theorem dX6_partnerOf_38 : decode cX6_partnerOf 38 = .ok (.iload_n 3, 1) := by decide +kernel
theorem dX6_partnerOf_39 : decode cX6_partnerOf 39 = .ok (.invokevirtual 110, 3) := by decide +kernel
theorem dX6_partnerOf_42 : decode cX6_partnerOf 42 = .ok (.bipush (-5), 2) := by decide +kernel
theorem dX6_partnerOf_44 : decode cX6_partnerOf 44 = .ok (.if_icmp .eq 7, 3) := by decide +kernel
theorem dX6_partnerOf_47 : decode cX6_partnerOf 47 = .ok (.iconst 1, 1) := by decide +kernel
theorem dX6_partnerOf_48 : decode cX6_partnerOf 48 = .ok (.goto 4, 3) := by decide +kernel
theorem dX6_partnerOf_51 : decode cX6_partnerOf 51 = .ok (.iconst 0, 1) := by decide +kernel
theorem dX6_partnerOf_52 : decode cX6_partnerOf 52 = .ok (.istore 4, 2) := by decide +kernel
theorem dX6_partnerOf_54 : decode cX6_partnerOf 54 = .ok (.iload 4, 2) := by decide +kernel
theorem dX6_partnerOf_56 : decode cX6_partnerOf 56 = .ok (.ifCond .eq 36, 3) := by decide +kernel
theorem dX6_partnerOf_59 : decode cX6_partnerOf 59 = .ok (.iload_n 2, 1) := by decide +kernel
theorem dX6_partnerOf_60 : decode cX6_partnerOf 60 = .ok (.bipush (-5), 2) := by decide +kernel
theorem dX6_partnerOf_62 : decode cX6_partnerOf 62 = .ok (.if_icmp .eq 26, 3) := by decide +kernel
theorem dX6_partnerOf_65 : decode cX6_partnerOf 65 = .ok (.aload_n 0, 1) := by decide +kernel
theorem dX6_partnerOf_66 : decode cX6_partnerOf 66 = .ok (.aload_n 0, 1) := by decide +kernel
theorem dX6_partnerOf_67 : decode cX6_partnerOf 67 = .ok (.iload_n 3, 1) := by decide +kernel
theorem dX6_partnerOf_68 : decode cX6_partnerOf 68 = .ok (.invokevirtual 81, 3) := by decide +kernel
theorem dX6_partnerOf_71 : decode cX6_partnerOf 71 = .ok (.iconst 0, 1) := by decide +kernel
theorem dX6_partnerOf_72 : decode cX6_partnerOf 72 = .ok (.invokevirtual 48, 3) := by decide +kernel
theorem dX6_partnerOf_75 : decode cX6_partnerOf 75 = .ok (.aload_n 0, 1) := by decide +kernel
theorem dX6_partnerOf_76 : decode cX6_partnerOf 76 = .ok (.aload_n 0, 1) := by decide +kernel
theorem dX6_partnerOf_77 : decode cX6_partnerOf 77 = .ok (.iload_n 2, 1) := by decide +kernel
theorem dX6_partnerOf_78 : decode cX6_partnerOf 78 = .ok (.invokevirtual 81, 3) := by decide +kernel
theorem dX6_partnerOf_81 : decode cX6_partnerOf 81 = .ok (.iconst 0, 1) := by decide +kernel
theorem dX6_partnerOf_82 : decode cX6_partnerOf 82 = .ok (.invokevirtual 48, 3) := by decide +kernel
theorem dX6_partnerOf_85 : decode cX6_partnerOf 85 = .ok (.if_icmp .ge 7, 3) := by decide +kernel
theorem dX6_partnerOf_88 : decode cX6_partnerOf 88 = .ok (.iload_n 3, 1) := by decide +kernel
theorem dX6_partnerOf_89 : decode cX6_partnerOf 89 = .ok (.goto 4, 3) := by decide +kernel
theorem dX6_partnerOf_92 : decode cX6_partnerOf 92 = .ok (.iload_n 2, 1) := by decide +kernel
theorem dX6_partnerOf_93 : decode cX6_partnerOf 93 = .ok (.istore_n 2, 1) := by decide +kernel
theorem dX6_partnerOf_94 : decode cX6_partnerOf 94 = .ok (.iinc 3 1, 3) := by decide +kernel
theorem dX6_partnerOf_97 : decode cX6_partnerOf 97 = .ok (.goto (-92), 3) := by decide +kernel
theorem dX6_partnerOf_100 : decode cX6_partnerOf 100 = .ok (.iload_n 2, 1) := by decide +kernel
theorem dX6_partnerOf_101 : decode cX6_partnerOf 101 = .ok (.ireturn, 1) := by decide +kernel
theorem dX6_swap_0 : decode cX6_swap 0 = .ok (.iconst 0, 1) := by decide +kernel
theorem dX6_swap_1 : decode cX6_swap 1 = .ok (.istore_n 1, 1) := by decide +kernel
theorem dX6_swap_2 : decode cX6_swap 2 = .ok (.aload_n 0, 1) := by decide +kernel
theorem dX6_swap_3 : decode cX6_swap 3 = .ok (.iconst 0, 1) := by decide +kernel
theorem dX6_swap_4 : decode cX6_swap 4 = .ok (.invokevirtual 113, 3) := by decide +kernel
theorem dX6_swap_7 : decode cX6_swap 7 = .ok (.istore_n 2, 1) := by decide +kernel
theorem dX6_swap_8 : decode cX6_swap 8 = .ok (.iload_n 2, 1) := by decide +kernel
theorem dX6_swap_9 : decode cX6_swap 9 = .ok (.bipush (-5), 2) := by decide +kernel
theorem dX6_swap_11 : decode cX6_swap 11 = .ok (.if_icmp .eq 89, 3) := by decide +kernel
theorem dX6_swap_14 : decode cX6_swap 14 = .ok (.aload_n 0, 1) := by decide +kernel
theorem dX6_swap_15 : decode cX6_swap 15 = .ok (.iload_n 2, 1) := by decide +kernel
theorem dX6_swap_16 : decode cX6_swap 16 = .ok (.invokevirtual 107, 3) := by decide +kernel
theorem dX6_swap_19 : decode cX6_swap 19 = .ok (.ifCond .eq 21, 3) := by decide +kernel
theorem dX6_swap_22 : decode cX6_swap 22 = .ok (.aload_n 0, 1) := by decide +kernel
theorem dX6_swap_23 : decode cX6_swap 23 = .ok (.iload_n 2, 1) := by decide +kernel
theorem dX6_swap_24 : decode cX6_swap 24 = .ok (.invokevirtual 110, 3) := by decide +kernel
theorem dX6_swap_27 : decode cX6_swap 27 = .ok (.bipush (-5), 2) := by decide +kernel
theorem dX6_swap_29 : decode cX6_swap 29 = .ok (.if_icmp .ne 11, 3) := by decide +kernel
theorem dX6_swap_32 : decode cX6_swap 32 = .ok (.aload_n 0, 1) := by decide +kernel
theorem dX6_swap_33 : decode cX6_swap 33 = .ok (.iload_n 2, 1) := by decide +kernel
theorem dX6_swap_34 : decode cX6_swap 34 = .ok (.invokevirtual 116, 3) := by decide +kernel
theorem dX6_swap_37 : decode cX6_swap 37 = .ok (.goto 5, 3) := by decide +kernel
theorem dX6_swap_40 : decode cX6_swap 40 = .ok (.bipush (-5), 2) := by decide +kernel
theorem dX6_swap_42 : decode cX6_swap 42 = .ok (.istore_n 3, 1) := by decide +kernel
theorem dX6_swap_43 : decode cX6_swap 43 = .ok (.iload_n 3, 1) := by decide +kernel
theorem dX6_swap_44 : decode cX6_swap 44 = .ok (.bipush (-5), 2) := by decide +kernel
theorem dX6_swap_46 : decode cX6_swap 46 = .ok (.if_icmp .eq 42, 3) := by decide +kernel
theorem dX6_swap_49 : decode cX6_swap 49 = .ok (.aload_n 0, 1) := by decide +kernel
theorem dX6_swap_50 : decode cX6_swap 50 = .ok (.invokevirtual 41, 3) := by decide +kernel
theorem dX6_swap_53 : decode cX6_swap 53 = .ok (.aload_n 0, 1) := by decide +kernel
theorem dX6_swap_54 : decode cX6_swap 54 = .ok (.iload_n 3, 1) := by decide +kernel
theorem dX6_swap_55 : decode cX6_swap 55 = .ok (.invokevirtual 81, 3) := by decide +kernel
theorem dX6_swap_58 : decode cX6_swap 58 = .ok (.istore 4, 2) := by decide +kernel
theorem dX6_swap_60 : decode cX6_swap 60 = .ok (.aload_n 0, 1) := by decide +kernel
theorem dX6_swap_61 : decode cX6_swap 61 = .ok (.iload_n 3, 1) := by decide +kernel
theorem dX6_swap_62 : decode cX6_swap 62 = .ok (.invokevirtual 110, 3) := by decide +kernel
theorem dX6_swap_65 : decode cX6_swap 65 = .ok (.istore 5, 2) := by decide +kernel
theorem dX6_swap_67 : decode cX6_swap 67 = .ok (.aload_n 0, 1) := by decide +kernel
theorem dX6_swap_68 : decode cX6_swap 68 = .ok (.iload 5, 2) := by decide +kernel
theorem dX6_swap_70 : decode cX6_swap 70 = .ok (.iload_n 3, 1) := by decide +kernel
theorem dX6_swap_71 : decode cX6_swap 71 = .ok (.invokevirtual 90, 3) := by decide +kernel
theorem dX6_swap_74 : decode cX6_swap 74 = .ok (.aload_n 0, 1) := by decide +kernel
theorem dX6_swap_75 : decode cX6_swap 75 = .ok (.iload 4, 2) := by decide +kernel
theorem dX6_swap_77 : decode cX6_swap 77 = .ok (.iload_n 2, 1) := by decide +kernel
theorem dX6_swap_78 : decode cX6_swap 78 = .ok (.invokevirtual 90, 3) := by decide +kernel
theorem dX6_swap_81 : decode cX6_swap 81 = .ok (.bipush 100, 2) := by decide +kernel
theorem dX6_swap_83 : decode cX6_swap 83 = .ok (.iload_n 2, 1) := by decide +kernel
theorem dX6_swap_84 : decode cX6_swap 84 = .ok (.imul, 1) := by decide +kernel
theorem dX6_swap_85 : decode cX6_swap 85 = .ok (.iload_n 3, 1) := by decide +kernel
theorem dX6_swap_86 : decode cX6_swap 86 = .ok (.iadd, 1) := by decide +kernel
theorem dX6_swap_87 : decode cX6_swap 87 = .ok (.ireturn, 1) := by decide +kernel
theorem dX6_swap_88 : decode cX6_swap 88 = .ok (.iinc 1 1, 3) := by decide +kernel
theorem dX6_swap_91 : decode cX6_swap 91 = .ok (.aload_n 0, 1) := by decide +kernel
theorem dX6_swap_92 : decode cX6_swap 92 = .ok (.iload_n 1, 1) := by decide +kernel
theorem dX6_swap_93 : decode cX6_swap 93 = .ok (.invokevirtual 113, 3) := by decide +kernel
theorem dX6_swap_96 : decode cX6_swap 96 = .ok (.istore_n 2, 1) := by decide +kernel
theorem dX6_swap_97 : decode cX6_swap 97 = .ok (.goto (-89), 3) := by decide +kernel
theorem dX6_swap_100 : decode cX6_swap 100 = .ok (.bipush (-5), 2) := by decide +kernel
theorem dX6_swap_102 : decode cX6_swap 102 = .ok (.ireturn, 1) := by decide +kernel
theorem dX6_hoursLeft_0 : decode cX6_hoursLeft 0 = .ok (.aload_n 0, 1) := by decide +kernel
theorem dX6_hoursLeft_1 : decode cX6_hoursLeft 1 = .ok (.iload_n 1, 1) := by decide +kernel
theorem dX6_hoursLeft_2 : decode cX6_hoursLeft 2 = .ok (.iconst 4, 1) := by decide +kernel
theorem dX6_hoursLeft_3 : decode cX6_hoursLeft 3 = .ok (.invokevirtual 48, 3) := by decide +kernel
theorem dX6_hoursLeft_6 : decode cX6_hoursLeft 6 = .ok (.aload_n 0, 1) := by decide +kernel
theorem dX6_hoursLeft_7 : decode cX6_hoursLeft 7 = .ok (.iload_n 1, 1) := by decide +kernel
theorem dX6_hoursLeft_8 : decode cX6_hoursLeft 8 = .ok (.iconst 2, 1) := by decide +kernel
theorem dX6_hoursLeft_9 : decode cX6_hoursLeft 9 = .ok (.invokevirtual 48, 3) := by decide +kernel
theorem dX6_hoursLeft_12 : decode cX6_hoursLeft 12 = .ok (.idiv, 1) := by decide +kernel
theorem dX6_hoursLeft_13 : decode cX6_hoursLeft 13 = .ok (.ireturn, 1) := by decide +kernel
theorem dX6_thirstyAt_0 : decode cX6_thirstyAt 0 = .ok (.iconst 0, 1) := by decide +kernel
theorem dX6_thirstyAt_1 : decode cX6_thirstyAt 1 = .ok (.istore_n 2, 1) := by decide +kernel
theorem dX6_thirstyAt_2 : decode cX6_thirstyAt 2 = .ok (.iload_n 2, 1) := by decide +kernel
theorem dX6_thirstyAt_3 : decode cX6_thirstyAt 3 = .ok (.aload_n 0, 1) := by decide +kernel
theorem dX6_thirstyAt_4 : decode cX6_thirstyAt 4 = .ok (.getfield 7, 3) := by decide +kernel
theorem dX6_thirstyAt_7 : decode cX6_thirstyAt 7 = .ok (.bipush 7, 2) := by decide +kernel
theorem dX6_thirstyAt_9 : decode cX6_thirstyAt 9 = .ok (.iaload, 1) := by decide +kernel
theorem dX6_thirstyAt_10 : decode cX6_thirstyAt 10 = .ok (.if_icmp .ge 120, 3) := by decide +kernel
theorem dX6_thirstyAt_13 : decode cX6_thirstyAt 13 = .ok (.iconst 0, 1) := by decide +kernel
theorem dX6_thirstyAt_14 : decode cX6_thirstyAt 14 = .ok (.istore_n 3, 1) := by decide +kernel
theorem dX6_thirstyAt_15 : decode cX6_thirstyAt 15 = .ok (.iconst 0, 1) := by decide +kernel
theorem dX6_thirstyAt_16 : decode cX6_thirstyAt 16 = .ok (.istore 4, 2) := by decide +kernel
theorem dX6_thirstyAt_18 : decode cX6_thirstyAt 18 = .ok (.iload 4, 2) := by decide +kernel
theorem dX6_thirstyAt_20 : decode cX6_thirstyAt 20 = .ok (.aload_n 0, 1) := by decide +kernel
theorem dX6_thirstyAt_21 : decode cX6_thirstyAt 21 = .ok (.getfield 7, 3) := by decide +kernel
theorem dX6_thirstyAt_24 : decode cX6_thirstyAt 24 = .ok (.bipush 7, 2) := by decide +kernel
theorem dX6_thirstyAt_26 : decode cX6_thirstyAt 26 = .ok (.iaload, 1) := by decide +kernel
theorem dX6_thirstyAt_27 : decode cX6_thirstyAt 27 = .ok (.if_icmp .ge 82, 3) := by decide +kernel
theorem dX6_thirstyAt_30 : decode cX6_thirstyAt 30 = .ok (.iload 4, 2) := by decide +kernel
theorem dX6_thirstyAt_32 : decode cX6_thirstyAt 32 = .ok (.iload_n 2, 1) := by decide +kernel
theorem dX6_thirstyAt_33 : decode cX6_thirstyAt 33 = .ok (.if_icmp .eq 70, 3) := by decide +kernel
theorem dX6_thirstyAt_36 : decode cX6_thirstyAt 36 = .ok (.aload_n 0, 1) := by decide +kernel
theorem dX6_thirstyAt_37 : decode cX6_thirstyAt 37 = .ok (.iload 4, 2) := by decide +kernel
theorem dX6_thirstyAt_39 : decode cX6_thirstyAt 39 = .ok (.invokevirtual 81, 3) := by decide +kernel
theorem dX6_thirstyAt_42 : decode cX6_thirstyAt 42 = .ok (.ifCond .lt 61, 3) := by decide +kernel
theorem dX6_thirstyAt_45 : decode cX6_thirstyAt 45 = .ok (.aload_n 0, 1) := by decide +kernel
theorem dX6_thirstyAt_46 : decode cX6_thirstyAt 46 = .ok (.iload_n 2, 1) := by decide +kernel
theorem dX6_thirstyAt_47 : decode cX6_thirstyAt 47 = .ok (.invokevirtual 81, 3) := by decide +kernel
theorem dX6_thirstyAt_50 : decode cX6_thirstyAt 50 = .ok (.ifCond .lt 53, 3) := by decide +kernel
theorem dX6_thirstyAt_53 : decode cX6_thirstyAt 53 = .ok (.aload_n 0, 1) := by decide +kernel
theorem dX6_thirstyAt_54 : decode cX6_thirstyAt 54 = .ok (.aload_n 0, 1) := by decide +kernel
theorem dX6_thirstyAt_55 : decode cX6_thirstyAt 55 = .ok (.iload_n 2, 1) := by decide +kernel
theorem dX6_thirstyAt_56 : decode cX6_thirstyAt 56 = .ok (.invokevirtual 81, 3) := by decide +kernel
theorem dX6_thirstyAt_59 : decode cX6_thirstyAt 59 = .ok (.invokevirtual 119, 3) := by decide +kernel
theorem dX6_thirstyAt_62 : decode cX6_thirstyAt 62 = .ok (.aload_n 0, 1) := by decide +kernel
theorem dX6_thirstyAt_63 : decode cX6_thirstyAt 63 = .ok (.aload_n 0, 1) := by decide +kernel
theorem dX6_thirstyAt_64 : decode cX6_thirstyAt 64 = .ok (.iload 4, 2) := by decide +kernel
theorem dX6_thirstyAt_66 : decode cX6_thirstyAt 66 = .ok (.invokevirtual 81, 3) := by decide +kernel
theorem dX6_thirstyAt_69 : decode cX6_thirstyAt 69 = .ok (.invokevirtual 119, 3) := by decide +kernel
theorem dX6_thirstyAt_72 : decode cX6_thirstyAt 72 = .ok (.isub, 1) := by decide +kernel
theorem dX6_thirstyAt_73 : decode cX6_thirstyAt 73 = .ok (.istore 5, 2) := by decide +kernel
theorem dX6_thirstyAt_75 : decode cX6_thirstyAt 75 = .ok (.iload_n 3, 1) := by decide +kernel
theorem dX6_thirstyAt_76 : decode cX6_thirstyAt 76 = .ok (.iload 5, 2) := by decide +kernel
theorem dX6_thirstyAt_78 : decode cX6_thirstyAt 78 = .ok (.ifCond .gt 18, 3) := by decide +kernel
theorem dX6_thirstyAt_81 : decode cX6_thirstyAt 81 = .ok (.iload 5, 2) := by decide +kernel
theorem dX6_thirstyAt_83 : decode cX6_thirstyAt 83 = .ok (.ifCond .ne 17, 3) := by decide +kernel
theorem dX6_thirstyAt_86 : decode cX6_thirstyAt 86 = .ok (.aload_n 0, 1) := by decide +kernel
theorem dX6_thirstyAt_87 : decode cX6_thirstyAt 87 = .ok (.iload 4, 2) := by decide +kernel
theorem dX6_thirstyAt_89 : decode cX6_thirstyAt 89 = .ok (.iload_n 2, 1) := by decide +kernel
theorem dX6_thirstyAt_90 : decode cX6_thirstyAt 90 = .ok (.invokevirtual 104, 3) := by decide +kernel
theorem dX6_thirstyAt_93 : decode cX6_thirstyAt 93 = .ok (.ifCond .eq 7, 3) := by decide +kernel
theorem dX6_thirstyAt_96 : decode cX6_thirstyAt 96 = .ok (.iconst 1, 1) := by decide +kernel
theorem dX6_thirstyAt_97 : decode cX6_thirstyAt 97 = .ok (.goto 4, 3) := by decide +kernel
theorem dX6_thirstyAt_100 : decode cX6_thirstyAt 100 = .ok (.iconst 0, 1) := by decide +kernel
theorem dX6_thirstyAt_101 : decode cX6_thirstyAt 101 = .ok (.iadd, 1) := by decide +kernel
theorem dX6_thirstyAt_102 : decode cX6_thirstyAt 102 = .ok (.istore_n 3, 1) := by decide +kernel
theorem dX6_thirstyAt_103 : decode cX6_thirstyAt 103 = .ok (.iinc 4 1, 3) := by decide +kernel
theorem dX6_thirstyAt_106 : decode cX6_thirstyAt 106 = .ok (.goto (-88), 3) := by decide +kernel
theorem dX6_thirstyAt_109 : decode cX6_thirstyAt 109 = .ok (.aload_n 0, 1) := by decide +kernel
theorem dX6_thirstyAt_110 : decode cX6_thirstyAt 110 = .ok (.iload_n 2, 1) := by decide +kernel
theorem dX6_thirstyAt_111 : decode cX6_thirstyAt 111 = .ok (.invokevirtual 81, 3) := by decide +kernel
theorem dX6_thirstyAt_114 : decode cX6_thirstyAt 114 = .ok (.ifCond .lt 10, 3) := by decide +kernel
theorem dX6_thirstyAt_117 : decode cX6_thirstyAt 117 = .ok (.iload_n 3, 1) := by decide +kernel
theorem dX6_thirstyAt_118 : decode cX6_thirstyAt 118 = .ok (.iload_n 1, 1) := by decide +kernel
theorem dX6_thirstyAt_119 : decode cX6_thirstyAt 119 = .ok (.if_icmp .ne 5, 3) := by decide +kernel
theorem dX6_thirstyAt_122 : decode cX6_thirstyAt 122 = .ok (.iload_n 2, 1) := by decide +kernel
theorem dX6_thirstyAt_123 : decode cX6_thirstyAt 123 = .ok (.ireturn, 1) := by decide +kernel
theorem dX6_thirstyAt_124 : decode cX6_thirstyAt 124 = .ok (.iinc 2 1, 3) := by decide +kernel
theorem dX6_thirstyAt_127 : decode cX6_thirstyAt 127 = .ok (.goto (-125), 3) := by decide +kernel
theorem dX6_thirstyAt_130 : decode cX6_thirstyAt 130 = .ok (.bipush (-5), 2) := by decide +kernel
theorem dX6_thirstyAt_132 : decode cX6_thirstyAt 132 = .ok (.ireturn, 1) := by decide +kernel
theorem dX6_fuelRun_0 : decode cX6_fuelRun 0 = .ok (.iconst 0, 1) := by decide +kernel
theorem dX6_fuelRun_1 : decode cX6_fuelRun 1 = .ok (.istore_n 1, 1) := by decide +kernel
theorem dX6_fuelRun_2 : decode cX6_fuelRun 2 = .ok (.iconst 0, 1) := by decide +kernel
theorem dX6_fuelRun_3 : decode cX6_fuelRun 3 = .ok (.istore_n 2, 1) := by decide +kernel
theorem dX6_fuelRun_4 : decode cX6_fuelRun 4 = .ok (.aload_n 0, 1) := by decide +kernel
theorem dX6_fuelRun_5 : decode cX6_fuelRun 5 = .ok (.iload_n 1, 1) := by decide +kernel
theorem dX6_fuelRun_6 : decode cX6_fuelRun 6 = .ok (.invokevirtual 122, 3) := by decide +kernel
theorem dX6_fuelRun_9 : decode cX6_fuelRun 9 = .ok (.bipush (-5), 2) := by decide +kernel
theorem dX6_fuelRun_11 : decode cX6_fuelRun 11 = .ok (.if_icmp .eq 37, 3) := by decide +kernel
theorem dX6_fuelRun_14 : decode cX6_fuelRun 14 = .ok (.aload_n 0, 1) := by decide +kernel
theorem dX6_fuelRun_15 : decode cX6_fuelRun 15 = .ok (.getfield 22, 3) := by decide +kernel
theorem dX6_fuelRun_18 : decode cX6_fuelRun 18 = .ok (.iload_n 1, 1) := by decide +kernel
theorem dX6_fuelRun_19 : decode cX6_fuelRun 19 = .ok (.aload_n 0, 1) := by decide +kernel
theorem dX6_fuelRun_20 : decode cX6_fuelRun 20 = .ok (.iload_n 1, 1) := by decide +kernel
theorem dX6_fuelRun_21 : decode cX6_fuelRun 21 = .ok (.invokevirtual 122, 3) := by decide +kernel
theorem dX6_fuelRun_24 : decode cX6_fuelRun 24 = .ok (.iastore, 1) := by decide +kernel
theorem dX6_fuelRun_25 : decode cX6_fuelRun 25 = .ok (.iload_n 2, 1) := by decide +kernel
theorem dX6_fuelRun_26 : decode cX6_fuelRun 26 = .ok (.aload_n 0, 1) := by decide +kernel
theorem dX6_fuelRun_27 : decode cX6_fuelRun 27 = .ok (.aload_n 0, 1) := by decide +kernel
theorem dX6_fuelRun_28 : decode cX6_fuelRun 28 = .ok (.aload_n 0, 1) := by decide +kernel
theorem dX6_fuelRun_29 : decode cX6_fuelRun 29 = .ok (.getfield 22, 3) := by decide +kernel
theorem dX6_fuelRun_32 : decode cX6_fuelRun 32 = .ok (.iload_n 1, 1) := by decide +kernel
theorem dX6_fuelRun_33 : decode cX6_fuelRun 33 = .ok (.iaload, 1) := by decide +kernel
theorem dX6_fuelRun_34 : decode cX6_fuelRun 34 = .ok (.invokevirtual 81, 3) := by decide +kernel
theorem dX6_fuelRun_37 : decode cX6_fuelRun 37 = .ok (.invokevirtual 56, 3) := by decide +kernel
theorem dX6_fuelRun_40 : decode cX6_fuelRun 40 = .ok (.iadd, 1) := by decide +kernel
theorem dX6_fuelRun_41 : decode cX6_fuelRun 41 = .ok (.istore_n 2, 1) := by decide +kernel
theorem dX6_fuelRun_42 : decode cX6_fuelRun 42 = .ok (.iinc 1 1, 3) := by decide +kernel
theorem dX6_fuelRun_45 : decode cX6_fuelRun 45 = .ok (.goto (-41), 3) := by decide +kernel
theorem dX6_fuelRun_48 : decode cX6_fuelRun 48 = .ok (.sipush 300, 3) := by decide +kernel
theorem dX6_fuelRun_51 : decode cX6_fuelRun 51 = .ok (.aload_n 0, 1) := by decide +kernel
theorem dX6_fuelRun_52 : decode cX6_fuelRun 52 = .ok (.getfield 7, 3) := by decide +kernel
theorem dX6_fuelRun_55 : decode cX6_fuelRun 55 = .ok (.iconst 3, 1) := by decide +kernel
theorem dX6_fuelRun_56 : decode cX6_fuelRun 56 = .ok (.iaload, 1) := by decide +kernel
theorem dX6_fuelRun_57 : decode cX6_fuelRun 57 = .ok (.invokestatic 60, 3) := by decide +kernel
theorem dX6_fuelRun_60 : decode cX6_fuelRun 60 = .ok (.istore_n 3, 1) := by decide +kernel
theorem dX6_fuelRun_61 : decode cX6_fuelRun 61 = .ok (.iload_n 3, 1) := by decide +kernel
theorem dX6_fuelRun_62 : decode cX6_fuelRun 62 = .ok (.ifCond .eq 7, 3) := by decide +kernel
theorem dX6_fuelRun_65 : decode cX6_fuelRun 65 = .ok (.iload_n 2, 1) := by decide +kernel
theorem dX6_fuelRun_66 : decode cX6_fuelRun 66 = .ok (.ifCond .ne 6, 3) := by decide +kernel
theorem dX6_fuelRun_69 : decode cX6_fuelRun 69 = .ok (.bipush (-5), 2) := by decide +kernel
theorem dX6_fuelRun_71 : decode cX6_fuelRun 71 = .ok (.ireturn, 1) := by decide +kernel
theorem dX6_fuelRun_72 : decode cX6_fuelRun 72 = .ok (.aload_n 0, 1) := by decide +kernel
theorem dX6_fuelRun_73 : decode cX6_fuelRun 73 = .ok (.invokevirtual 41, 3) := by decide +kernel
theorem dX6_fuelRun_76 : decode cX6_fuelRun 76 = .ok (.iload_n 3, 1) := by decide +kernel
theorem dX6_fuelRun_77 : decode cX6_fuelRun 77 = .ok (.istore 4, 2) := by decide +kernel
theorem dX6_fuelRun_79 : decode cX6_fuelRun 79 = .ok (.iconst 0, 1) := by decide +kernel
theorem dX6_fuelRun_80 : decode cX6_fuelRun 80 = .ok (.istore 5, 2) := by decide +kernel
theorem dX6_fuelRun_82 : decode cX6_fuelRun 82 = .ok (.iload 5, 2) := by decide +kernel
theorem dX6_fuelRun_84 : decode cX6_fuelRun 84 = .ok (.iload_n 1, 1) := by decide +kernel
theorem dX6_fuelRun_85 : decode cX6_fuelRun 85 = .ok (.if_icmp .ge 55, 3) := by decide +kernel
theorem dX6_fuelRun_88 : decode cX6_fuelRun 88 = .ok (.iload 4, 2) := by decide +kernel
theorem dX6_fuelRun_90 : decode cX6_fuelRun 90 = .ok (.aload_n 0, 1) := by decide +kernel
theorem dX6_fuelRun_91 : decode cX6_fuelRun 91 = .ok (.aload_n 0, 1) := by decide +kernel
theorem dX6_fuelRun_92 : decode cX6_fuelRun 92 = .ok (.aload_n 0, 1) := by decide +kernel
theorem dX6_fuelRun_93 : decode cX6_fuelRun 93 = .ok (.getfield 22, 3) := by decide +kernel
theorem dX6_fuelRun_96 : decode cX6_fuelRun 96 = .ok (.iload 5, 2) := by decide +kernel
theorem dX6_fuelRun_98 : decode cX6_fuelRun 98 = .ok (.iaload, 1) := by decide +kernel
theorem dX6_fuelRun_99 : decode cX6_fuelRun 99 = .ok (.invokevirtual 81, 3) := by decide +kernel
theorem dX6_fuelRun_102 : decode cX6_fuelRun 102 = .ok (.invokevirtual 56, 3) := by decide +kernel
theorem dX6_fuelRun_105 : decode cX6_fuelRun 105 = .ok (.invokestatic 60, 3) := by decide +kernel
theorem dX6_fuelRun_108 : decode cX6_fuelRun 108 = .ok (.istore 6, 2) := by decide +kernel
theorem dX6_fuelRun_110 : decode cX6_fuelRun 110 = .ok (.aload_n 0, 1) := by decide +kernel
theorem dX6_fuelRun_111 : decode cX6_fuelRun 111 = .ok (.aload_n 0, 1) := by decide +kernel
theorem dX6_fuelRun_112 : decode cX6_fuelRun 112 = .ok (.aload_n 0, 1) := by decide +kernel
theorem dX6_fuelRun_113 : decode cX6_fuelRun 113 = .ok (.getfield 22, 3) := by decide +kernel
theorem dX6_fuelRun_116 : decode cX6_fuelRun 116 = .ok (.iload 5, 2) := by decide +kernel
theorem dX6_fuelRun_118 : decode cX6_fuelRun 118 = .ok (.iaload, 1) := by decide +kernel
theorem dX6_fuelRun_119 : decode cX6_fuelRun 119 = .ok (.invokevirtual 81, 3) := by decide +kernel
theorem dX6_fuelRun_122 : decode cX6_fuelRun 122 = .ok (.iload 6, 2) := by decide +kernel
theorem dX6_fuelRun_124 : decode cX6_fuelRun 124 = .ok (.invokevirtual 63, 3) := by decide +kernel
theorem dX6_fuelRun_127 : decode cX6_fuelRun 127 = .ok (.iload 4, 2) := by decide +kernel
theorem dX6_fuelRun_129 : decode cX6_fuelRun 129 = .ok (.iload 6, 2) := by decide +kernel
theorem dX6_fuelRun_131 : decode cX6_fuelRun 131 = .ok (.isub, 1) := by decide +kernel
theorem dX6_fuelRun_132 : decode cX6_fuelRun 132 = .ok (.istore 4, 2) := by decide +kernel
theorem dX6_fuelRun_134 : decode cX6_fuelRun 134 = .ok (.iinc 5 1, 3) := by decide +kernel
theorem dX6_fuelRun_137 : decode cX6_fuelRun 137 = .ok (.goto (-55), 3) := by decide +kernel
theorem dX6_fuelRun_140 : decode cX6_fuelRun 140 = .ok (.iload_n 3, 1) := by decide +kernel
theorem dX6_fuelRun_141 : decode cX6_fuelRun 141 = .ok (.iload 4, 2) := by decide +kernel
theorem dX6_fuelRun_143 : decode cX6_fuelRun 143 = .ok (.isub, 1) := by decide +kernel
theorem dX6_fuelRun_144 : decode cX6_fuelRun 144 = .ok (.ireturn, 1) := by decide +kernel
theorem dX6_against_0 : decode cX6_against 0 = .ok (.aload_n 0, 1) := by decide +kernel
theorem dX6_against_1 : decode cX6_against 1 = .ok (.iload_n 1, 1) := by decide +kernel
theorem dX6_against_2 : decode cX6_against 2 = .ok (.bipush 6, 2) := by decide +kernel
theorem dX6_against_4 : decode cX6_against 4 = .ok (.invokevirtual 48, 3) := by decide +kernel
theorem dX6_against_7 : decode cX6_against 7 = .ok (.iconst 1, 1) := by decide +kernel
theorem dX6_against_8 : decode cX6_against 8 = .ok (.if_icmp .ne 5, 3) := by decide +kernel
theorem dX6_against_11 : decode cX6_against 11 = .ok (.iconst 0, 1) := by decide +kernel
theorem dX6_against_12 : decode cX6_against 12 = .ok (.ireturn, 1) := by decide +kernel
theorem dX6_against_13 : decode cX6_against 13 = .ok (.aload_n 0, 1) := by decide +kernel
theorem dX6_against_14 : decode cX6_against 14 = .ok (.iload_n 1, 1) := by decide +kernel
theorem dX6_against_15 : decode cX6_against 15 = .ok (.iconst 4, 1) := by decide +kernel
theorem dX6_against_16 : decode cX6_against 16 = .ok (.invokevirtual 48, 3) := by decide +kernel
theorem dX6_against_19 : decode cX6_against 19 = .ok (.aload_n 0, 1) := by decide +kernel
theorem dX6_against_20 : decode cX6_against 20 = .ok (.iload_n 1, 1) := by decide +kernel
theorem dX6_against_21 : decode cX6_against 21 = .ok (.iconst 2, 1) := by decide +kernel
theorem dX6_against_22 : decode cX6_against 22 = .ok (.invokevirtual 48, 3) := by decide +kernel
theorem dX6_against_25 : decode cX6_against 25 = .ok (.if_icmp .ge 5, 3) := by decide +kernel
theorem dX6_against_28 : decode cX6_against 28 = .ok (.iconst 2, 1) := by decide +kernel
theorem dX6_against_29 : decode cX6_against 29 = .ok (.ireturn, 1) := by decide +kernel
theorem dX6_against_30 : decode cX6_against 30 = .ok (.aload_n 0, 1) := by decide +kernel
theorem dX6_against_31 : decode cX6_against 31 = .ok (.iload_n 1, 1) := by decide +kernel
theorem dX6_against_32 : decode cX6_against 32 = .ok (.iconst 3, 1) := by decide +kernel
theorem dX6_against_33 : decode cX6_against 33 = .ok (.invokevirtual 48, 3) := by decide +kernel
theorem dX6_against_36 : decode cX6_against 36 = .ok (.aload_n 0, 1) := by decide +kernel
theorem dX6_against_37 : decode cX6_against 37 = .ok (.getfield 7, 3) := by decide +kernel
theorem dX6_against_40 : decode cX6_against 40 = .ok (.iconst 1, 1) := by decide +kernel
theorem dX6_against_41 : decode cX6_against 41 = .ok (.iaload, 1) := by decide +kernel
theorem dX6_against_42 : decode cX6_against 42 = .ok (.isub, 1) := by decide +kernel
theorem dX6_against_43 : decode cX6_against 43 = .ok (.istore_n 2, 1) := by decide +kernel
theorem dX6_against_44 : decode cX6_against 44 = .ok (.iload_n 2, 1) := by decide +kernel
end
section
theorem dX6_against_45 : decode cX6_against 45 = .ok (.ifCond .le 20, 3) := by decide +kernel
theorem dX6_against_48 : decode cX6_against 48 = .ok (.iload_n 2, 1) := by decide +kernel
theorem dX6_against_49 : decode cX6_against 49 = .ok (.iconst 5, 1) := by decide +kernel
theorem dX6_against_50 : decode cX6_against 50 = .ok (.aload_n 0, 1) := by decide +kernel
theorem dX6_against_51 : decode cX6_against 51 = .ok (.iload_n 1, 1) := by decide +kernel
theorem dX6_against_52 : decode cX6_against 52 = .ok (.bipush 7, 2) := by decide +kernel
theorem dX6_against_54 : decode cX6_against 54 = .ok (.invokevirtual 48, 3) := by decide +kernel
theorem dX6_against_57 : decode cX6_against 57 = .ok (.imul, 1) := by decide +kernel
theorem dX6_against_58 : decode cX6_against 58 = .ok (.if_icmp .le 7, 3) := by decide +kernel
theorem dX6_against_61 : decode cX6_against 61 = .ok (.iconst 3, 1) := by decide +kernel
theorem dX6_against_62 : decode cX6_against 62 = .ok (.goto 4, 3) := by decide +kernel
theorem dX6_against_65 : decode cX6_against 65 = .ok (.iconst 0, 1) := by decide +kernel
theorem dX6_against_66 : decode cX6_against 66 = .ok (.ireturn, 1) := by decide +kernel
theorem dX6_isDark_0 : decode cX6_isDark 0 = .ok (.aload_n 0, 1) := by decide +kernel
theorem dX6_isDark_1 : decode cX6_isDark 1 = .ok (.iload_n 1, 1) := by decide +kernel
theorem dX6_isDark_2 : decode cX6_isDark 2 = .ok (.bipush 6, 2) := by decide +kernel
theorem dX6_isDark_4 : decode cX6_isDark 4 = .ok (.aload_n 0, 1) := by decide +kernel
theorem dX6_isDark_5 : decode cX6_isDark 5 = .ok (.iload_n 1, 1) := by decide +kernel
theorem dX6_isDark_6 : decode cX6_isDark 6 = .ok (.bipush 6, 2) := by decide +kernel
theorem dX6_isDark_8 : decode cX6_isDark 8 = .ok (.invokevirtual 78, 3) := by decide +kernel
theorem dX6_isDark_11 : decode cX6_isDark 11 = .ok (.iconst 1, 1) := by decide +kernel
theorem dX6_isDark_12 : decode cX6_isDark 12 = .ok (.iadd, 1) := by decide +kernel
theorem dX6_isDark_13 : decode cX6_isDark 13 = .ok (.invokevirtual 67, 3) := by decide +kernel
theorem dX6_isDark_16 : decode cX6_isDark 16 = .ok (.aload_n 0, 1) := by decide +kernel
theorem dX6_isDark_17 : decode cX6_isDark 17 = .ok (.iload_n 1, 1) := by decide +kernel
theorem dX6_isDark_18 : decode cX6_isDark 18 = .ok (.bipush 8, 2) := by decide +kernel
theorem dX6_isDark_20 : decode cX6_isDark 20 = .ok (.iload_n 2, 1) := by decide +kernel
theorem dX6_isDark_21 : decode cX6_isDark 21 = .ok (.invokevirtual 67, 3) := by decide +kernel
theorem dX6_isDark_24 : decode cX6_isDark 24 = .ok (.aload_n 0, 1) := by decide +kernel
theorem dX6_isDark_25 : decode cX6_isDark 25 = .ok (.getfield 7, 3) := by decide +kernel
theorem dX6_isDark_28 : decode cX6_isDark 28 = .ok (.bipush 9, 2) := by decide +kernel
theorem dX6_isDark_30 : decode cX6_isDark 30 = .ok (.dup2, 1) := by decide +kernel
theorem dX6_isDark_31 : decode cX6_isDark 31 = .ok (.iaload, 1) := by decide +kernel
theorem dX6_isDark_32 : decode cX6_isDark 32 = .ok (.iconst 1, 1) := by decide +kernel
theorem dX6_isDark_33 : decode cX6_isDark 33 = .ok (.iadd, 1) := by decide +kernel
theorem dX6_isDark_34 : decode cX6_isDark 34 = .ok (.iastore, 1) := by decide +kernel
theorem dX6_isDark_35 : decode cX6_isDark 35 = .ok (.return_, 1) := by decide +kernel
theorem dX6_isLit_0 : decode cX6_isLit 0 = .ok (.aload_n 0, 1) := by decide +kernel
theorem dX6_isLit_1 : decode cX6_isLit 1 = .ok (.iload_n 1, 1) := by decide +kernel
theorem dX6_isLit_2 : decode cX6_isLit 2 = .ok (.invokevirtual 81, 3) := by decide +kernel
theorem dX6_isLit_5 : decode cX6_isLit 5 = .ok (.istore_n 2, 1) := by decide +kernel
theorem dX6_isLit_6 : decode cX6_isLit 6 = .ok (.aload_n 0, 1) := by decide +kernel
theorem dX6_isLit_7 : decode cX6_isLit 7 = .ok (.iload_n 2, 1) := by decide +kernel
theorem dX6_isLit_8 : decode cX6_isLit 8 = .ok (.iconst 4, 1) := by decide +kernel
theorem dX6_isLit_9 : decode cX6_isLit 9 = .ok (.aload_n 0, 1) := by decide +kernel
theorem dX6_isLit_10 : decode cX6_isLit 10 = .ok (.iload_n 2, 1) := by decide +kernel
theorem dX6_isLit_11 : decode cX6_isLit 11 = .ok (.iconst 4, 1) := by decide +kernel
theorem dX6_isLit_12 : decode cX6_isLit 12 = .ok (.invokevirtual 48, 3) := by decide +kernel
theorem dX6_isLit_15 : decode cX6_isLit 15 = .ok (.aload_n 0, 1) := by decide +kernel
theorem dX6_isLit_16 : decode cX6_isLit 16 = .ok (.iload_n 2, 1) := by decide +kernel
theorem dX6_isLit_17 : decode cX6_isLit 17 = .ok (.iconst 2, 1) := by decide +kernel
theorem dX6_isLit_18 : decode cX6_isLit 18 = .ok (.invokevirtual 48, 3) := by decide +kernel
theorem dX6_isLit_21 : decode cX6_isLit 21 = .ok (.isub, 1) := by decide +kernel
theorem dX6_isLit_22 : decode cX6_isLit 22 = .ok (.invokevirtual 44, 3) := by decide +kernel
theorem dX6_isLit_25 : decode cX6_isLit 25 = .ok (.aload_n 0, 1) := by decide +kernel
theorem dX6_isLit_26 : decode cX6_isLit 26 = .ok (.iload_n 2, 1) := by decide +kernel
theorem dX6_isLit_27 : decode cX6_isLit 27 = .ok (.bipush 8, 2) := by decide +kernel
theorem dX6_isLit_29 : decode cX6_isLit 29 = .ok (.aload_n 0, 1) := by decide +kernel
theorem dX6_isLit_30 : decode cX6_isLit 30 = .ok (.iload_n 2, 1) := by decide +kernel
theorem dX6_isLit_31 : decode cX6_isLit 31 = .ok (.bipush 8, 2) := by decide +kernel
theorem dX6_isLit_33 : decode cX6_isLit 33 = .ok (.invokevirtual 48, 3) := by decide +kernel
theorem dX6_isLit_36 : decode cX6_isLit 36 = .ok (.iconst 1, 1) := by decide +kernel
theorem dX6_isLit_37 : decode cX6_isLit 37 = .ok (.iadd, 1) := by decide +kernel
theorem dX6_isLit_38 : decode cX6_isLit 38 = .ok (.invokevirtual 44, 3) := by decide +kernel
theorem dX6_isLit_41 : decode cX6_isLit 41 = .ok (.aload_n 0, 1) := by decide +kernel
theorem dX6_isLit_42 : decode cX6_isLit 42 = .ok (.iload_n 2, 1) := by decide +kernel
theorem dX6_isLit_43 : decode cX6_isLit 43 = .ok (.bipush 6, 2) := by decide +kernel
theorem dX6_isLit_45 : decode cX6_isLit 45 = .ok (.aload_n 0, 1) := by decide +kernel
theorem dX6_isLit_46 : decode cX6_isLit 46 = .ok (.iload_n 2, 1) := by decide +kernel
theorem dX6_isLit_47 : decode cX6_isLit 47 = .ok (.iconst 4, 1) := by decide +kernel
theorem dX6_isLit_48 : decode cX6_isLit 48 = .ok (.invokevirtual 48, 3) := by decide +kernel
theorem dX6_isLit_51 : decode cX6_isLit 51 = .ok (.aload_n 0, 1) := by decide +kernel
theorem dX6_isLit_52 : decode cX6_isLit 52 = .ok (.iload_n 2, 1) := by decide +kernel
theorem dX6_isLit_53 : decode cX6_isLit 53 = .ok (.iconst 2, 1) := by decide +kernel
theorem dX6_isLit_54 : decode cX6_isLit 54 = .ok (.invokevirtual 48, 3) := by decide +kernel
theorem dX6_isLit_57 : decode cX6_isLit 57 = .ok (.if_icmp .ge 7, 3) := by decide +kernel
theorem dX6_isLit_60 : decode cX6_isLit 60 = .ok (.iconst 0, 1) := by decide +kernel
theorem dX6_isLit_61 : decode cX6_isLit 61 = .ok (.goto 4, 3) := by decide +kernel
theorem dX6_isLit_64 : decode cX6_isLit 64 = .ok (.iconst 1, 1) := by decide +kernel
theorem dX6_isLit_65 : decode cX6_isLit 65 = .ok (.invokevirtual 44, 3) := by decide +kernel
theorem dX6_isLit_68 : decode cX6_isLit 68 = .ok (.aload_n 0, 1) := by decide +kernel
theorem dX6_isLit_69 : decode cX6_isLit 69 = .ok (.getfield 7, 3) := by decide +kernel
theorem dX6_isLit_72 : decode cX6_isLit 72 = .ok (.iconst 4, 1) := by decide +kernel
theorem dX6_isLit_73 : decode cX6_isLit 73 = .ok (.dup2, 1) := by decide +kernel
theorem dX6_isLit_74 : decode cX6_isLit 74 = .ok (.iaload, 1) := by decide +kernel
theorem dX6_isLit_75 : decode cX6_isLit 75 = .ok (.aload_n 0, 1) := by decide +kernel
theorem dX6_isLit_76 : decode cX6_isLit 76 = .ok (.iload_n 2, 1) := by decide +kernel
theorem dX6_isLit_77 : decode cX6_isLit 77 = .ok (.iconst 2, 1) := by decide +kernel
theorem dX6_isLit_78 : decode cX6_isLit 78 = .ok (.invokevirtual 48, 3) := by decide +kernel
theorem dX6_isLit_81 : decode cX6_isLit 81 = .ok (.iadd, 1) := by decide +kernel
theorem dX6_isLit_82 : decode cX6_isLit 82 = .ok (.iastore, 1) := by decide +kernel
theorem dX6_isLit_83 : decode cX6_isLit 83 = .ok (.aload_n 0, 1) := by decide +kernel
theorem dX6_isLit_84 : decode cX6_isLit 84 = .ok (.iload_n 2, 1) := by decide +kernel
theorem dX6_isLit_85 : decode cX6_isLit 85 = .ok (.iconst 0, 1) := by decide +kernel
theorem dX6_isLit_86 : decode cX6_isLit 86 = .ok (.invokevirtual 48, 3) := by decide +kernel
theorem dX6_isLit_89 : decode cX6_isLit 89 = .ok (.aload_n 0, 1) := by decide +kernel
theorem dX6_isLit_90 : decode cX6_isLit 90 = .ok (.getfield 7, 3) := by decide +kernel
theorem dX6_isLit_93 : decode cX6_isLit 93 = .ok (.iconst 2, 1) := by decide +kernel
theorem dX6_isLit_94 : decode cX6_isLit 94 = .ok (.iaload, 1) := by decide +kernel
theorem dX6_isLit_95 : decode cX6_isLit 95 = .ok (.imul, 1) := by decide +kernel
theorem dX6_isLit_96 : decode cX6_isLit 96 = .ok (.istore_n 3, 1) := by decide +kernel
theorem dX6_isLit_97 : decode cX6_isLit 97 = .ok (.aload_n 0, 1) := by decide +kernel
theorem dX6_isLit_98 : decode cX6_isLit 98 = .ok (.iload_n 1, 1) := by decide +kernel
theorem dX6_isLit_99 : decode cX6_isLit 99 = .ok (.iconst 5, 1) := by decide +kernel
theorem dX6_isLit_100 : decode cX6_isLit 100 = .ok (.aload_n 0, 1) := by decide +kernel
theorem dX6_isLit_101 : decode cX6_isLit 101 = .ok (.iload_n 1, 1) := by decide +kernel
theorem dX6_isLit_102 : decode cX6_isLit 102 = .ok (.iconst 5, 1) := by decide +kernel
theorem dX6_isLit_103 : decode cX6_isLit 103 = .ok (.invokevirtual 78, 3) := by decide +kernel
theorem dX6_isLit_106 : decode cX6_isLit 106 = .ok (.iconst 1, 1) := by decide +kernel
theorem dX6_isLit_107 : decode cX6_isLit 107 = .ok (.iadd, 1) := by decide +kernel
theorem dX6_isLit_108 : decode cX6_isLit 108 = .ok (.invokevirtual 67, 3) := by decide +kernel
theorem dX6_isLit_111 : decode cX6_isLit 111 = .ok (.aload_n 0, 1) := by decide +kernel
theorem dX6_isLit_112 : decode cX6_isLit 112 = .ok (.iload_n 1, 1) := by decide +kernel
theorem dX6_isLit_113 : decode cX6_isLit 113 = .ok (.bipush 7, 2) := by decide +kernel
theorem dX6_isLit_115 : decode cX6_isLit 115 = .ok (.aload_n 0, 1) := by decide +kernel
theorem dX6_isLit_116 : decode cX6_isLit 116 = .ok (.iload_n 1, 1) := by decide +kernel
theorem dX6_isLit_117 : decode cX6_isLit 117 = .ok (.bipush 7, 2) := by decide +kernel
theorem dX6_isLit_119 : decode cX6_isLit 119 = .ok (.invokevirtual 78, 3) := by decide +kernel
theorem dX6_isLit_122 : decode cX6_isLit 122 = .ok (.iload_n 3, 1) := by decide +kernel
theorem dX6_isLit_123 : decode cX6_isLit 123 = .ok (.iadd, 1) := by decide +kernel
theorem dX6_isLit_124 : decode cX6_isLit 124 = .ok (.invokevirtual 67, 3) := by decide +kernel
theorem dX6_isLit_127 : decode cX6_isLit 127 = .ok (.aload_n 0, 1) := by decide +kernel
theorem dX6_isLit_128 : decode cX6_isLit 128 = .ok (.getfield 7, 3) := by decide +kernel
theorem dX6_isLit_131 : decode cX6_isLit 131 = .ok (.bipush 10, 2) := by decide +kernel
theorem dX6_isLit_133 : decode cX6_isLit 133 = .ok (.dup2, 1) := by decide +kernel
theorem dX6_isLit_134 : decode cX6_isLit 134 = .ok (.iaload, 1) := by decide +kernel
theorem dX6_isLit_135 : decode cX6_isLit 135 = .ok (.iload_n 3, 1) := by decide +kernel
theorem dX6_isLit_136 : decode cX6_isLit 136 = .ok (.iadd, 1) := by decide +kernel
theorem dX6_isLit_137 : decode cX6_isLit 137 = .ok (.iastore, 1) := by decide +kernel
theorem dX6_isLit_138 : decode cX6_isLit 138 = .ok (.aload_n 0, 1) := by decide +kernel
theorem dX6_isLit_139 : decode cX6_isLit 139 = .ok (.getfield 7, 3) := by decide +kernel
theorem dX6_isLit_142 : decode cX6_isLit 142 = .ok (.bipush 8, 2) := by decide +kernel
theorem dX6_isLit_144 : decode cX6_isLit 144 = .ok (.dup2, 1) := by decide +kernel
theorem dX6_isLit_145 : decode cX6_isLit 145 = .ok (.iaload, 1) := by decide +kernel
theorem dX6_isLit_146 : decode cX6_isLit 146 = .ok (.iconst 1, 1) := by decide +kernel
theorem dX6_isLit_147 : decode cX6_isLit 147 = .ok (.iadd, 1) := by decide +kernel
theorem dX6_isLit_148 : decode cX6_isLit 148 = .ok (.iastore, 1) := by decide +kernel
theorem dX6_isLit_149 : decode cX6_isLit 149 = .ok (.return_, 1) := by decide +kernel
theorem dX6_goesOn_0 : decode cX6_goesOn 0 = .ok (.iconst 0, 1) := by decide +kernel
theorem dX6_goesOn_1 : decode cX6_goesOn 1 = .ok (.istore_n 1, 1) := by decide +kernel
theorem dX6_goesOn_2 : decode cX6_goesOn 2 = .ok (.iconst 0, 1) := by decide +kernel
theorem dX6_goesOn_3 : decode cX6_goesOn 3 = .ok (.istore_n 2, 1) := by decide +kernel
theorem dX6_goesOn_4 : decode cX6_goesOn 4 = .ok (.iload_n 2, 1) := by decide +kernel
theorem dX6_goesOn_5 : decode cX6_goesOn 5 = .ok (.aload_n 0, 1) := by decide +kernel
theorem dX6_goesOn_6 : decode cX6_goesOn 6 = .ok (.getfield 7, 3) := by decide +kernel
theorem dX6_goesOn_9 : decode cX6_goesOn 9 = .ok (.bipush 7, 2) := by decide +kernel
theorem dX6_goesOn_11 : decode cX6_goesOn 11 = .ok (.iaload, 1) := by decide +kernel
theorem dX6_goesOn_12 : decode cX6_goesOn 12 = .ok (.if_icmp .ge 107, 3) := by decide +kernel
theorem dX6_goesOn_15 : decode cX6_goesOn 15 = .ok (.aload_n 0, 1) := by decide +kernel
theorem dX6_goesOn_16 : decode cX6_goesOn 16 = .ok (.iload_n 2, 1) := by decide +kernel
theorem dX6_goesOn_17 : decode cX6_goesOn 17 = .ok (.invokevirtual 101, 3) := by decide +kernel
theorem dX6_goesOn_20 : decode cX6_goesOn 20 = .ok (.ifCond .ne 6, 3) := by decide +kernel
theorem dX6_goesOn_23 : decode cX6_goesOn 23 = .ok (.goto 90, 3) := by decide +kernel
theorem dX6_goesOn_26 : decode cX6_goesOn 26 = .ok (.aload_n 0, 1) := by decide +kernel
theorem dX6_goesOn_27 : decode cX6_goesOn 27 = .ok (.iload_n 2, 1) := by decide +kernel
theorem dX6_goesOn_28 : decode cX6_goesOn 28 = .ok (.invokevirtual 81, 3) := by decide +kernel
theorem dX6_goesOn_31 : decode cX6_goesOn 31 = .ok (.istore_n 3, 1) := by decide +kernel
theorem dX6_goesOn_32 : decode cX6_goesOn 32 = .ok (.iload_n 3, 1) := by decide +kernel
theorem dX6_goesOn_33 : decode cX6_goesOn 33 = .ok (.ifCond .ge 7, 3) := by decide +kernel
theorem dX6_goesOn_36 : decode cX6_goesOn 36 = .ok (.iconst 1, 1) := by decide +kernel
theorem dX6_goesOn_37 : decode cX6_goesOn 37 = .ok (.goto 8, 3) := by decide +kernel
theorem dX6_goesOn_40 : decode cX6_goesOn 40 = .ok (.aload_n 0, 1) := by decide +kernel
theorem dX6_goesOn_41 : decode cX6_goesOn 41 = .ok (.iload_n 3, 1) := by decide +kernel
theorem dX6_goesOn_42 : decode cX6_goesOn 42 = .ok (.invokevirtual 125, 3) := by decide +kernel
theorem dX6_goesOn_45 : decode cX6_goesOn 45 = .ok (.istore 4, 2) := by decide +kernel
theorem dX6_goesOn_47 : decode cX6_goesOn 47 = .ok (.iload 4, 2) := by decide +kernel
theorem dX6_goesOn_49 : decode cX6_goesOn 49 = .ok (.ifCond .ne 14, 3) := by decide +kernel
theorem dX6_goesOn_52 : decode cX6_goesOn 52 = .ok (.aload_n 0, 1) := by decide +kernel
theorem dX6_goesOn_53 : decode cX6_goesOn 53 = .ok (.iload_n 2, 1) := by decide +kernel
theorem dX6_goesOn_54 : decode cX6_goesOn 54 = .ok (.invokevirtual 128, 3) := by decide +kernel
theorem dX6_goesOn_57 : decode cX6_goesOn 57 = .ok (.iinc 1 1, 3) := by decide +kernel
theorem dX6_goesOn_60 : decode cX6_goesOn 60 = .ok (.goto 53, 3) := by decide +kernel
theorem dX6_goesOn_63 : decode cX6_goesOn 63 = .ok (.aload_n 0, 1) := by decide +kernel
theorem dX6_goesOn_64 : decode cX6_goesOn 64 = .ok (.iload_n 2, 1) := by decide +kernel
theorem dX6_goesOn_65 : decode cX6_goesOn 65 = .ok (.iload 4, 2) := by decide +kernel
theorem dX6_goesOn_67 : decode cX6_goesOn 67 = .ok (.invokevirtual 131, 3) := by decide +kernel
theorem dX6_goesOn_70 : decode cX6_goesOn 70 = .ok (.aload_n 0, 1) := by decide +kernel
theorem dX6_goesOn_71 : decode cX6_goesOn 71 = .ok (.getfield 7, 3) := by decide +kernel
theorem dX6_goesOn_74 : decode cX6_goesOn 74 = .ok (.bipush 11, 2) := by decide +kernel
theorem dX6_goesOn_76 : decode cX6_goesOn 76 = .ok (.dup2, 1) := by decide +kernel
theorem dX6_goesOn_77 : decode cX6_goesOn 77 = .ok (.iaload, 1) := by decide +kernel
theorem dX6_goesOn_78 : decode cX6_goesOn 78 = .ok (.iload 4, 2) := by decide +kernel
theorem dX6_goesOn_80 : decode cX6_goesOn 80 = .ok (.iconst 1, 1) := by decide +kernel
theorem dX6_goesOn_81 : decode cX6_goesOn 81 = .ok (.if_icmp .le 7, 3) := by decide +kernel
theorem dX6_goesOn_84 : decode cX6_goesOn 84 = .ok (.iconst 1, 1) := by decide +kernel
theorem dX6_goesOn_85 : decode cX6_goesOn 85 = .ok (.goto 4, 3) := by decide +kernel
theorem dX6_goesOn_88 : decode cX6_goesOn 88 = .ok (.iconst 0, 1) := by decide +kernel
theorem dX6_goesOn_89 : decode cX6_goesOn 89 = .ok (.iadd, 1) := by decide +kernel
theorem dX6_goesOn_90 : decode cX6_goesOn 90 = .ok (.iastore, 1) := by decide +kernel
theorem dX6_goesOn_91 : decode cX6_goesOn 91 = .ok (.iload 4, 2) := by decide +kernel
theorem dX6_goesOn_93 : decode cX6_goesOn 93 = .ok (.iconst 3, 1) := by decide +kernel
theorem dX6_goesOn_94 : decode cX6_goesOn 94 = .ok (.if_icmp .ne 19, 3) := by decide +kernel
theorem dX6_goesOn_97 : decode cX6_goesOn 97 = .ok (.aload_n 0, 1) := by decide +kernel
theorem dX6_goesOn_98 : decode cX6_goesOn 98 = .ok (.iload_n 3, 1) := by decide +kernel
theorem dX6_goesOn_99 : decode cX6_goesOn 99 = .ok (.bipush 7, 2) := by decide +kernel
theorem dX6_goesOn_101 : decode cX6_goesOn 101 = .ok (.aload_n 0, 1) := by decide +kernel
theorem dX6_goesOn_102 : decode cX6_goesOn 102 = .ok (.iload_n 3, 1) := by decide +kernel
theorem dX6_goesOn_103 : decode cX6_goesOn 103 = .ok (.bipush 7, 2) := by decide +kernel
theorem dX6_goesOn_105 : decode cX6_goesOn 105 = .ok (.invokevirtual 48, 3) := by decide +kernel
theorem dX6_goesOn_108 : decode cX6_goesOn 108 = .ok (.iconst 1, 1) := by decide +kernel
theorem dX6_goesOn_109 : decode cX6_goesOn 109 = .ok (.iadd, 1) := by decide +kernel
theorem dX6_goesOn_110 : decode cX6_goesOn 110 = .ok (.invokevirtual 44, 3) := by decide +kernel
theorem dX6_goesOn_113 : decode cX6_goesOn 113 = .ok (.iinc 2 1, 3) := by decide +kernel
theorem dX6_goesOn_116 : decode cX6_goesOn 116 = .ok (.goto (-112), 3) := by decide +kernel
theorem dX6_goesOn_119 : decode cX6_goesOn 119 = .ok (.aload_n 0, 1) := by decide +kernel
theorem dX6_goesOn_120 : decode cX6_goesOn 120 = .ok (.getfield 7, 3) := by decide +kernel
theorem dX6_goesOn_123 : decode cX6_goesOn 123 = .ok (.iconst 0, 1) := by decide +kernel
theorem dX6_goesOn_124 : decode cX6_goesOn 124 = .ok (.dup2, 1) := by decide +kernel
theorem dX6_goesOn_125 : decode cX6_goesOn 125 = .ok (.iaload, 1) := by decide +kernel
theorem dX6_goesOn_126 : decode cX6_goesOn 126 = .ok (.iconst 1, 1) := by decide +kernel
theorem dX6_goesOn_127 : decode cX6_goesOn 127 = .ok (.iadd, 1) := by decide +kernel
theorem dX6_goesOn_128 : decode cX6_goesOn 128 = .ok (.iastore, 1) := by decide +kernel
theorem dX6_goesOn_129 : decode cX6_goesOn 129 = .ok (.iconst 0, 1) := by decide +kernel
theorem dX6_goesOn_130 : decode cX6_goesOn 130 = .ok (.istore_n 2, 1) := by decide +kernel
theorem dX6_goesOn_131 : decode cX6_goesOn 131 = .ok (.iload_n 2, 1) := by decide +kernel
theorem dX6_goesOn_132 : decode cX6_goesOn 132 = .ok (.aload_n 0, 1) := by decide +kernel
theorem dX6_goesOn_133 : decode cX6_goesOn 133 = .ok (.getfield 7, 3) := by decide +kernel
theorem dX6_goesOn_136 : decode cX6_goesOn 136 = .ok (.bipush 7, 2) := by decide +kernel
theorem dX6_goesOn_138 : decode cX6_goesOn 138 = .ok (.iaload, 1) := by decide +kernel
theorem dX6_goesOn_139 : decode cX6_goesOn 139 = .ok (.if_icmp .ge 37, 3) := by decide +kernel
theorem dX6_goesOn_142 : decode cX6_goesOn 142 = .ok (.aload_n 0, 1) := by decide +kernel
theorem dX6_goesOn_143 : decode cX6_goesOn 143 = .ok (.iload_n 2, 1) := by decide +kernel
theorem dX6_goesOn_144 : decode cX6_goesOn 144 = .ok (.iconst 3, 1) := by decide +kernel
theorem dX6_goesOn_145 : decode cX6_goesOn 145 = .ok (.invokevirtual 78, 3) := by decide +kernel
theorem dX6_goesOn_148 : decode cX6_goesOn 148 = .ok (.aload_n 0, 1) := by decide +kernel
theorem dX6_goesOn_149 : decode cX6_goesOn 149 = .ok (.getfield 7, 3) := by decide +kernel
theorem dX6_goesOn_152 : decode cX6_goesOn 152 = .ok (.iconst 0, 1) := by decide +kernel
theorem dX6_goesOn_153 : decode cX6_goesOn 153 = .ok (.iaload, 1) := by decide +kernel
theorem dX6_goesOn_154 : decode cX6_goesOn 154 = .ok (.if_icmp .ne 16, 3) := by decide +kernel
theorem dX6_goesOn_157 : decode cX6_goesOn 157 = .ok (.aload_n 0, 1) := by decide +kernel
theorem dX6_goesOn_158 : decode cX6_goesOn 158 = .ok (.iload_n 2, 1) := by decide +kernel
theorem dX6_goesOn_159 : decode cX6_goesOn 159 = .ok (.invokevirtual 81, 3) := by decide +kernel
theorem dX6_goesOn_162 : decode cX6_goesOn 162 = .ok (.ifCond .lt 8, 3) := by decide +kernel
theorem dX6_goesOn_165 : decode cX6_goesOn 165 = .ok (.aload_n 0, 1) := by decide +kernel
theorem dX6_goesOn_166 : decode cX6_goesOn 166 = .ok (.iload_n 2, 1) := by decide +kernel
theorem dX6_goesOn_167 : decode cX6_goesOn 167 = .ok (.invokevirtual 97, 3) := by decide +kernel
theorem dX6_goesOn_170 : decode cX6_goesOn 170 = .ok (.iinc 2 1, 3) := by decide +kernel
theorem dX6_goesOn_173 : decode cX6_goesOn 173 = .ok (.goto (-42), 3) := by decide +kernel
theorem dX6_goesOn_176 : decode cX6_goesOn 176 = .ok (.iload_n 1, 1) := by decide +kernel
theorem dX6_goesOn_177 : decode cX6_goesOn 177 = .ok (.ireturn, 1) := by decide +kernel
theorem dX6_goesOnFor_0 : decode cX6_goesOnFor 0 = .ok (.iconst 0, 1) := by decide +kernel
theorem dX6_goesOnFor_1 : decode cX6_goesOnFor 1 = .ok (.istore_n 2, 1) := by decide +kernel
theorem dX6_goesOnFor_2 : decode cX6_goesOnFor 2 = .ok (.iconst 0, 1) := by decide +kernel
theorem dX6_goesOnFor_3 : decode cX6_goesOnFor 3 = .ok (.istore_n 3, 1) := by decide +kernel
theorem dX6_goesOnFor_4 : decode cX6_goesOnFor 4 = .ok (.iload_n 3, 1) := by decide +kernel
theorem dX6_goesOnFor_5 : decode cX6_goesOnFor 5 = .ok (.iload_n 1, 1) := by decide +kernel
theorem dX6_goesOnFor_6 : decode cX6_goesOnFor 6 = .ok (.if_icmp .ge 16, 3) := by decide +kernel
theorem dX6_goesOnFor_9 : decode cX6_goesOnFor 9 = .ok (.iload_n 2, 1) := by decide +kernel
theorem dX6_goesOnFor_10 : decode cX6_goesOnFor 10 = .ok (.aload_n 0, 1) := by decide +kernel
theorem dX6_goesOnFor_11 : decode cX6_goesOnFor 11 = .ok (.invokevirtual 134, 3) := by decide +kernel
theorem dX6_goesOnFor_14 : decode cX6_goesOnFor 14 = .ok (.iadd, 1) := by decide +kernel
theorem dX6_goesOnFor_15 : decode cX6_goesOnFor 15 = .ok (.istore_n 2, 1) := by decide +kernel
theorem dX6_goesOnFor_16 : decode cX6_goesOnFor 16 = .ok (.iinc 3 1, 3) := by decide +kernel
theorem dX6_goesOnFor_19 : decode cX6_goesOnFor 19 = .ok (.goto (-15), 3) := by decide +kernel
theorem dX6_goesOnFor_22 : decode cX6_goesOnFor 22 = .ok (.iload_n 2, 1) := by decide +kernel
theorem dX6_goesOnFor_23 : decode cX6_goesOnFor 23 = .ok (.ireturn, 1) := by decide +kernel
theorem dX6_pass_0 : decode cX6_pass 0 = .ok (.iload_n 1, 1) := by decide +kernel
theorem dX6_pass_1 : decode cX6_pass 1 = .ok (.iconst 1, 1) := by decide +kernel
theorem dX6_pass_2 : decode cX6_pass 2 = .ok (.bipush 24, 2) := by decide +kernel
theorem dX6_pass_4 : decode cX6_pass 4 = .ok (.invokestatic 36, 3) := by decide +kernel
theorem dX6_pass_7 : decode cX6_pass 7 = .ok (.ifCond .ne 6, 3) := by decide +kernel
theorem dX6_pass_10 : decode cX6_pass 10 = .ok (.bipush (-2), 2) := by decide +kernel
theorem dX6_pass_12 : decode cX6_pass 12 = .ok (.ireturn, 1) := by decide +kernel
theorem dX6_pass_13 : decode cX6_pass 13 = .ok (.aload_n 0, 1) := by decide +kernel
theorem dX6_pass_14 : decode cX6_pass 14 = .ok (.getfield 7, 3) := by decide +kernel
theorem dX6_pass_17 : decode cX6_pass 17 = .ok (.iconst 0, 1) := by decide +kernel
theorem dX6_pass_18 : decode cX6_pass 18 = .ok (.iaload, 1) := by decide +kernel
theorem dX6_pass_19 : decode cX6_pass 19 = .ok (.iload_n 1, 1) := by decide +kernel
theorem dX6_pass_20 : decode cX6_pass 20 = .ok (.iadd, 1) := by decide +kernel
theorem dX6_pass_21 : decode cX6_pass 21 = .ok (.sipush 999, 3) := by decide +kernel
theorem dX6_pass_24 : decode cX6_pass 24 = .ok (.if_icmp .le 6, 3) := by decide +kernel
theorem dX6_pass_27 : decode cX6_pass 27 = .ok (.bipush (-4), 2) := by decide +kernel
theorem dX6_pass_29 : decode cX6_pass 29 = .ok (.ireturn, 1) := by decide +kernel
theorem dX6_pass_30 : decode cX6_pass 30 = .ok (.aload_n 0, 1) := by decide +kernel
theorem dX6_pass_31 : decode cX6_pass 31 = .ok (.invokevirtual 41, 3) := by decide +kernel
theorem dX6_pass_34 : decode cX6_pass 34 = .ok (.aload_n 0, 1) := by decide +kernel
theorem dX6_pass_35 : decode cX6_pass 35 = .ok (.iload_n 1, 1) := by decide +kernel
theorem dX6_pass_36 : decode cX6_pass 36 = .ok (.invokevirtual 137, 3) := by decide +kernel
theorem dX6_pass_39 : decode cX6_pass 39 = .ok (.ireturn, 1) := by decide +kernel
theorem dX6_type_0 : decode cX6_type 0 = .ok (.aload_n 0, 1) := by decide +kernel
theorem dX6_type_1 : decode cX6_type 1 = .ok (.getfield 140, 3) := by decide +kernel
theorem dX6_type_4 : decode cX6_type 4 = .ok (.bipush 60, 2) := by decide +kernel
theorem dX6_type_6 : decode cX6_type 6 = .ok (.if_icmp .ne 6, 3) := by decide +kernel
theorem dX6_type_9 : decode cX6_type 9 = .ok (.bipush (-3), 2) := by decide +kernel
theorem dX6_type_11 : decode cX6_type 11 = .ok (.ireturn, 1) := by decide +kernel
theorem dX6_type_12 : decode cX6_type 12 = .ok (.aload_n 0, 1) := by decide +kernel
theorem dX6_type_13 : decode cX6_type 13 = .ok (.getfield 25, 3) := by decide +kernel
theorem dX6_type_16 : decode cX6_type 16 = .ok (.aload_n 0, 1) := by decide +kernel
theorem dX6_type_17 : decode cX6_type 17 = .ok (.getfield 140, 3) := by decide +kernel
theorem dX6_type_20 : decode cX6_type 20 = .ok (.iload_n 1, 1) := by decide +kernel
theorem dX6_type_21 : decode cX6_type 21 = .ok (.castore, 1) := by decide +kernel
theorem dX6_type_22 : decode cX6_type 22 = .ok (.aload_n 0, 1) := by decide +kernel
theorem dX6_type_23 : decode cX6_type 23 = .ok (.dup, 1) := by decide +kernel
theorem dX6_type_24 : decode cX6_type 24 = .ok (.getfield 140, 3) := by decide +kernel
theorem dX6_type_27 : decode cX6_type 27 = .ok (.iconst 1, 1) := by decide +kernel
theorem dX6_type_28 : decode cX6_type 28 = .ok (.iadd, 1) := by decide +kernel
theorem dX6_type_29 : decode cX6_type 29 = .ok (.putfield 140, 3) := by decide +kernel
theorem dX6_type_32 : decode cX6_type 32 = .ok (.aload_n 0, 1) := by decide +kernel
theorem dX6_type_33 : decode cX6_type 33 = .ok (.getfield 140, 3) := by decide +kernel
theorem dX6_type_36 : decode cX6_type 36 = .ok (.ireturn, 1) := by decide +kernel
theorem dX6_clearText_0 : decode cX6_clearText 0 = .ok (.aload_n 0, 1) := by decide +kernel
theorem dX6_clearText_1 : decode cX6_clearText 1 = .ok (.getfield 140, 3) := by decide +kernel
theorem dX6_clearText_4 : decode cX6_clearText 4 = .ok (.istore_n 1, 1) := by decide +kernel
theorem dX6_clearText_5 : decode cX6_clearText 5 = .ok (.aload_n 0, 1) := by decide +kernel
theorem dX6_clearText_6 : decode cX6_clearText 6 = .ok (.iconst 0, 1) := by decide +kernel
theorem dX6_clearText_7 : decode cX6_clearText 7 = .ok (.putfield 140, 3) := by decide +kernel
theorem dX6_clearText_10 : decode cX6_clearText 10 = .ok (.iload_n 1, 1) := by decide +kernel
theorem dX6_clearText_11 : decode cX6_clearText 11 = .ok (.ireturn, 1) := by decide +kernel
theorem dX6_takes_0 : decode cX6_takes 0 = .ok (.aload_n 0, 1) := by decide +kernel
theorem dX6_takes_1 : decode cX6_takes 1 = .ok (.getfield 143, 3) := by decide +kernel
theorem dX6_takes_4 : decode cX6_takes 4 = .ok (.aload_n 0, 1) := by decide +kernel
theorem dX6_takes_5 : decode cX6_takes 5 = .ok (.getfield 140, 3) := by decide +kernel
theorem dX6_takes_8 : decode cX6_takes 8 = .ok (.if_icmp .ge 16, 3) := by decide +kernel
theorem dX6_takes_11 : decode cX6_takes 11 = .ok (.aload_n 0, 1) := by decide +kernel
theorem dX6_takes_12 : decode cX6_takes 12 = .ok (.getfield 25, 3) := by decide +kernel
theorem dX6_takes_15 : decode cX6_takes 15 = .ok (.aload_n 0, 1) := by decide +kernel
theorem dX6_takes_16 : decode cX6_takes 16 = .ok (.getfield 143, 3) := by decide +kernel
theorem dX6_takes_19 : decode cX6_takes 19 = .ok (.caload, 1) := by decide +kernel
theorem dX6_takes_20 : decode cX6_takes 20 = .ok (.iload_n 1, 1) := by decide +kernel
theorem dX6_takes_21 : decode cX6_takes 21 = .ok (.if_icmp .eq 5, 3) := by decide +kernel
theorem dX6_takes_24 : decode cX6_takes 24 = .ok (.iconst 0, 1) := by decide +kernel
theorem dX6_takes_25 : decode cX6_takes 25 = .ok (.ireturn, 1) := by decide +kernel
theorem dX6_takes_26 : decode cX6_takes 26 = .ok (.aload_n 0, 1) := by decide +kernel
theorem dX6_takes_27 : decode cX6_takes 27 = .ok (.dup, 1) := by decide +kernel
theorem dX6_takes_28 : decode cX6_takes 28 = .ok (.getfield 143, 3) := by decide +kernel
theorem dX6_takes_31 : decode cX6_takes 31 = .ok (.iconst 1, 1) := by decide +kernel
theorem dX6_takes_32 : decode cX6_takes 32 = .ok (.iadd, 1) := by decide +kernel
theorem dX6_takes_33 : decode cX6_takes 33 = .ok (.putfield 143, 3) := by decide +kernel
theorem dX6_takes_36 : decode cX6_takes 36 = .ok (.iconst 1, 1) := by decide +kernel
theorem dX6_takes_37 : decode cX6_takes 37 = .ok (.ireturn, 1) := by decide +kernel
theorem dX6_number_0 : decode cX6_number 0 = .ok (.aload_n 0, 1) := by decide +kernel
theorem dX6_number_1 : decode cX6_number 1 = .ok (.getfield 143, 3) := by decide +kernel
theorem dX6_number_4 : decode cX6_number 4 = .ok (.aload_n 0, 1) := by decide +kernel
theorem dX6_number_5 : decode cX6_number 5 = .ok (.getfield 140, 3) := by decide +kernel
theorem dX6_number_8 : decode cX6_number 8 = .ok (.if_icmp .ge 24, 3) := by decide +kernel
theorem dX6_number_11 : decode cX6_number 11 = .ok (.aload_n 0, 1) := by decide +kernel
theorem dX6_number_12 : decode cX6_number 12 = .ok (.getfield 25, 3) := by decide +kernel
theorem dX6_number_15 : decode cX6_number 15 = .ok (.aload_n 0, 1) := by decide +kernel
theorem dX6_number_16 : decode cX6_number 16 = .ok (.getfield 143, 3) := by decide +kernel
theorem dX6_number_19 : decode cX6_number 19 = .ok (.caload, 1) := by decide +kernel
theorem dX6_number_20 : decode cX6_number 20 = .ok (.bipush 48, 2) := by decide +kernel
theorem dX6_number_22 : decode cX6_number 22 = .ok (.iload_n 2, 1) := by decide +kernel
theorem dX6_number_23 : decode cX6_number 23 = .ok (.iadd, 1) := by decide +kernel
theorem dX6_number_24 : decode cX6_number 24 = .ok (.bipush 57, 2) := by decide +kernel
theorem dX6_number_26 : decode cX6_number 26 = .ok (.invokestatic 36, 3) := by decide +kernel
theorem dX6_number_29 : decode cX6_number 29 = .ok (.ifCond .ne 6, 3) := by decide +kernel
theorem dX6_number_32 : decode cX6_number 32 = .ok (.bipush (-5), 2) := by decide +kernel
theorem dX6_number_34 : decode cX6_number 34 = .ok (.ireturn, 1) := by decide +kernel
theorem dX6_number_35 : decode cX6_number 35 = .ok (.aload_n 0, 1) := by decide +kernel
theorem dX6_number_36 : decode cX6_number 36 = .ok (.getfield 25, 3) := by decide +kernel
theorem dX6_number_39 : decode cX6_number 39 = .ok (.aload_n 0, 1) := by decide +kernel
theorem dX6_number_40 : decode cX6_number 40 = .ok (.getfield 143, 3) := by decide +kernel
theorem dX6_number_43 : decode cX6_number 43 = .ok (.caload, 1) := by decide +kernel
theorem dX6_number_44 : decode cX6_number 44 = .ok (.bipush 48, 2) := by decide +kernel
theorem dX6_number_46 : decode cX6_number 46 = .ok (.isub, 1) := by decide +kernel
theorem dX6_number_47 : decode cX6_number 47 = .ok (.istore_n 3, 1) := by decide +kernel
theorem dX6_number_48 : decode cX6_number 48 = .ok (.aload_n 0, 1) := by decide +kernel
theorem dX6_number_49 : decode cX6_number 49 = .ok (.dup, 1) := by decide +kernel
theorem dX6_number_50 : decode cX6_number 50 = .ok (.getfield 143, 3) := by decide +kernel
theorem dX6_number_53 : decode cX6_number 53 = .ok (.iconst 1, 1) := by decide +kernel
theorem dX6_number_54 : decode cX6_number 54 = .ok (.iadd, 1) := by decide +kernel
theorem dX6_number_55 : decode cX6_number 55 = .ok (.putfield 143, 3) := by decide +kernel
theorem dX6_number_58 : decode cX6_number 58 = .ok (.iconst 1, 1) := by decide +kernel
theorem dX6_number_59 : decode cX6_number 59 = .ok (.istore 4, 2) := by decide +kernel
theorem dX6_number_61 : decode cX6_number 61 = .ok (.iload 4, 2) := by decide +kernel
theorem dX6_number_63 : decode cX6_number 63 = .ok (.iload_n 1, 1) := by decide +kernel
theorem dX6_number_64 : decode cX6_number 64 = .ok (.if_icmp .ge 71, 3) := by decide +kernel
theorem dX6_number_67 : decode cX6_number 67 = .ok (.iload_n 3, 1) := by decide +kernel
theorem dX6_number_68 : decode cX6_number 68 = .ok (.ifCond .le 67, 3) := by decide +kernel
theorem dX6_number_71 : decode cX6_number 71 = .ok (.aload_n 0, 1) := by decide +kernel
theorem dX6_number_72 : decode cX6_number 72 = .ok (.getfield 143, 3) := by decide +kernel
theorem dX6_number_75 : decode cX6_number 75 = .ok (.aload_n 0, 1) := by decide +kernel
theorem dX6_number_76 : decode cX6_number 76 = .ok (.getfield 140, 3) := by decide +kernel
theorem dX6_number_79 : decode cX6_number 79 = .ok (.if_icmp .ge 56, 3) := by decide +kernel
theorem dX6_number_82 : decode cX6_number 82 = .ok (.aload_n 0, 1) := by decide +kernel
theorem dX6_number_83 : decode cX6_number 83 = .ok (.getfield 25, 3) := by decide +kernel
theorem dX6_number_86 : decode cX6_number 86 = .ok (.aload_n 0, 1) := by decide +kernel
theorem dX6_number_87 : decode cX6_number 87 = .ok (.getfield 143, 3) := by decide +kernel
theorem dX6_number_90 : decode cX6_number 90 = .ok (.caload, 1) := by decide +kernel
theorem dX6_number_91 : decode cX6_number 91 = .ok (.bipush 48, 2) := by decide +kernel
theorem dX6_number_93 : decode cX6_number 93 = .ok (.bipush 57, 2) := by decide +kernel
theorem dX6_number_95 : decode cX6_number 95 = .ok (.invokestatic 36, 3) := by decide +kernel
theorem dX6_number_98 : decode cX6_number 98 = .ok (.ifCond .eq 37, 3) := by decide +kernel
theorem dX6_number_101 : decode cX6_number 101 = .ok (.bipush 10, 2) := by decide +kernel
theorem dX6_number_103 : decode cX6_number 103 = .ok (.iload_n 3, 1) := by decide +kernel
theorem dX6_number_104 : decode cX6_number 104 = .ok (.imul, 1) := by decide +kernel
theorem dX6_number_105 : decode cX6_number 105 = .ok (.aload_n 0, 1) := by decide +kernel
theorem dX6_number_106 : decode cX6_number 106 = .ok (.getfield 25, 3) := by decide +kernel
theorem dX6_number_109 : decode cX6_number 109 = .ok (.aload_n 0, 1) := by decide +kernel
theorem dX6_number_110 : decode cX6_number 110 = .ok (.getfield 143, 3) := by decide +kernel
theorem dX6_number_113 : decode cX6_number 113 = .ok (.caload, 1) := by decide +kernel
theorem dX6_number_114 : decode cX6_number 114 = .ok (.iadd, 1) := by decide +kernel
theorem dX6_number_115 : decode cX6_number 115 = .ok (.bipush 48, 2) := by decide +kernel
theorem dX6_number_117 : decode cX6_number 117 = .ok (.isub, 1) := by decide +kernel
theorem dX6_number_118 : decode cX6_number 118 = .ok (.istore_n 3, 1) := by decide +kernel
theorem dX6_number_119 : decode cX6_number 119 = .ok (.aload_n 0, 1) := by decide +kernel
theorem dX6_number_120 : decode cX6_number 120 = .ok (.dup, 1) := by decide +kernel
theorem dX6_number_121 : decode cX6_number 121 = .ok (.getfield 143, 3) := by decide +kernel
theorem dX6_number_124 : decode cX6_number 124 = .ok (.iconst 1, 1) := by decide +kernel
theorem dX6_number_125 : decode cX6_number 125 = .ok (.iadd, 1) := by decide +kernel
theorem dX6_number_126 : decode cX6_number 126 = .ok (.putfield 143, 3) := by decide +kernel
theorem dX6_number_129 : decode cX6_number 129 = .ok (.iinc 4 1, 3) := by decide +kernel
theorem dX6_number_132 : decode cX6_number 132 = .ok (.goto (-71), 3) := by decide +kernel
theorem dX6_number_135 : decode cX6_number 135 = .ok (.iload_n 3, 1) := by decide +kernel
theorem dX6_number_136 : decode cX6_number 136 = .ok (.ireturn, 1) := by decide +kernel
theorem dX6_readsSite_0 : decode cX6_readsSite 0 = .ok (.iconst 4, 1) := by decide +kernel
theorem dX6_readsSite_1 : decode cX6_readsSite 1 = .ok (.aload_n 0, 1) := by decide +kernel
theorem dX6_readsSite_2 : decode cX6_readsSite 2 = .ok (.getfield 146, 3) := by decide +kernel
theorem dX6_readsSite_5 : decode cX6_readsSite 5 = .ok (.imul, 1) := by decide +kernel
theorem dX6_readsSite_6 : decode cX6_readsSite 6 = .ok (.istore_n 1, 1) := by decide +kernel
theorem dX6_readsSite_7 : decode cX6_readsSite 7 = .ok (.iconst 0, 1) := by decide +kernel
theorem dX6_readsSite_8 : decode cX6_readsSite 8 = .ok (.istore_n 2, 1) := by decide +kernel
theorem dX6_readsSite_9 : decode cX6_readsSite 9 = .ok (.iload_n 2, 1) := by decide +kernel
theorem dX6_readsSite_10 : decode cX6_readsSite 10 = .ok (.iconst 4, 1) := by decide +kernel
theorem dX6_readsSite_11 : decode cX6_readsSite 11 = .ok (.if_icmp .ge 97, 3) := by decide +kernel
theorem dX6_readsSite_14 : decode cX6_readsSite 14 = .ok (.aload_n 0, 1) := by decide +kernel
theorem dX6_readsSite_15 : decode cX6_readsSite 15 = .ok (.getfield 29, 3) := by decide +kernel
theorem dX6_readsSite_18 : decode cX6_readsSite 18 = .ok (.iload_n 1, 1) := by decide +kernel
theorem dX6_readsSite_19 : decode cX6_readsSite 19 = .ok (.iload_n 2, 1) := by decide +kernel
theorem dX6_readsSite_20 : decode cX6_readsSite 20 = .ok (.iadd, 1) := by decide +kernel
theorem dX6_readsSite_21 : decode cX6_readsSite 21 = .ok (.aload_n 0, 1) := by decide +kernel
theorem dX6_readsSite_22 : decode cX6_readsSite 22 = .ok (.iload_n 2, 1) := by decide +kernel
theorem dX6_readsSite_23 : decode cX6_readsSite 23 = .ok (.ifCond .ne 7, 3) := by decide +kernel
theorem dX6_readsSite_26 : decode cX6_readsSite 26 = .ok (.iconst 1, 1) := by decide +kernel
theorem dX6_readsSite_27 : decode cX6_readsSite 27 = .ok (.goto 13, 3) := by decide +kernel
theorem dX6_readsSite_30 : decode cX6_readsSite 30 = .ok (.iload_n 2, 1) := by decide +kernel
theorem dX6_readsSite_31 : decode cX6_readsSite 31 = .ok (.iconst 1, 1) := by decide +kernel
theorem dX6_readsSite_32 : decode cX6_readsSite 32 = .ok (.if_icmp .ne 7, 3) := by decide +kernel
theorem dX6_readsSite_35 : decode cX6_readsSite 35 = .ok (.iconst 2, 1) := by decide +kernel
theorem dX6_readsSite_36 : decode cX6_readsSite 36 = .ok (.goto 4, 3) := by decide +kernel
theorem dX6_readsSite_39 : decode cX6_readsSite 39 = .ok (.iconst 3, 1) := by decide +kernel
theorem dX6_readsSite_40 : decode cX6_readsSite 40 = .ok (.iload_n 2, 1) := by decide +kernel
theorem dX6_readsSite_41 : decode cX6_readsSite 41 = .ok (.iconst 2, 1) := by decide +kernel
theorem dX6_readsSite_42 : decode cX6_readsSite 42 = .ok (.if_icmp .ge 7, 3) := by decide +kernel
theorem dX6_readsSite_45 : decode cX6_readsSite 45 = .ok (.iconst 1, 1) := by decide +kernel
theorem dX6_readsSite_46 : decode cX6_readsSite 46 = .ok (.goto 4, 3) := by decide +kernel
theorem dX6_readsSite_49 : decode cX6_readsSite 49 = .ok (.iconst 0, 1) := by decide +kernel
theorem dX6_readsSite_50 : decode cX6_readsSite 50 = .ok (.invokevirtual 149, 3) := by decide +kernel
theorem dX6_readsSite_53 : decode cX6_readsSite 53 = .ok (.iastore, 1) := by decide +kernel
theorem dX6_readsSite_54 : decode cX6_readsSite 54 = .ok (.aload_n 0, 1) := by decide +kernel
theorem dX6_readsSite_55 : decode cX6_readsSite 55 = .ok (.getfield 29, 3) := by decide +kernel
theorem dX6_readsSite_58 : decode cX6_readsSite 58 = .ok (.iload_n 1, 1) := by decide +kernel
theorem dX6_readsSite_59 : decode cX6_readsSite 59 = .ok (.iload_n 2, 1) := by decide +kernel
theorem dX6_readsSite_60 : decode cX6_readsSite 60 = .ok (.iadd, 1) := by decide +kernel
theorem dX6_readsSite_61 : decode cX6_readsSite 61 = .ok (.iaload, 1) := by decide +kernel
theorem dX6_readsSite_62 : decode cX6_readsSite 62 = .ok (.bipush (-5), 2) := by decide +kernel
theorem dX6_readsSite_64 : decode cX6_readsSite 64 = .ok (.if_icmp .eq 36, 3) := by decide +kernel
theorem dX6_readsSite_67 : decode cX6_readsSite 67 = .ok (.iload_n 2, 1) := by decide +kernel
theorem dX6_readsSite_68 : decode cX6_readsSite 68 = .ok (.iconst 3, 1) := by decide +kernel
theorem dX6_readsSite_69 : decode cX6_readsSite 69 = .ok (.if_icmp .ge 33, 3) := by decide +kernel
theorem dX6_readsSite_72 : decode cX6_readsSite 72 = .ok (.aload_n 0, 1) := by decide +kernel
theorem dX6_readsSite_73 : decode cX6_readsSite 73 = .ok (.iload_n 2, 1) := by decide +kernel
theorem dX6_readsSite_74 : decode cX6_readsSite 74 = .ok (.ifCond .ne 8, 3) := by decide +kernel
theorem dX6_readsSite_77 : decode cX6_readsSite 77 = .ok (.bipush 42, 2) := by decide +kernel
theorem dX6_readsSite_79 : decode cX6_readsSite 79 = .ok (.goto 15, 3) := by decide +kernel
theorem dX6_readsSite_82 : decode cX6_readsSite 82 = .ok (.iload_n 2, 1) := by decide +kernel
theorem dX6_readsSite_83 : decode cX6_readsSite 83 = .ok (.iconst 1, 1) := by decide +kernel
theorem dX6_readsSite_84 : decode cX6_readsSite 84 = .ok (.if_icmp .ne 8, 3) := by decide +kernel
theorem dX6_readsSite_87 : decode cX6_readsSite 87 = .ok (.bipush 64, 2) := by decide +kernel
theorem dX6_readsSite_89 : decode cX6_readsSite 89 = .ok (.goto 5, 3) := by decide +kernel
theorem dX6_readsSite_92 : decode cX6_readsSite 92 = .ok (.bipush 45, 2) := by decide +kernel
theorem dX6_readsSite_94 : decode cX6_readsSite 94 = .ok (.invokevirtual 152, 3) := by decide +kernel
theorem dX6_readsSite_97 : decode cX6_readsSite 97 = .ok (.ifCond .ne 5, 3) := by decide +kernel
theorem dX6_readsSite_100 : decode cX6_readsSite 100 = .ok (.iconst 0, 1) := by decide +kernel
theorem dX6_readsSite_101 : decode cX6_readsSite 101 = .ok (.ireturn, 1) := by decide +kernel
theorem dX6_readsSite_102 : decode cX6_readsSite 102 = .ok (.iinc 2 1, 3) := by decide +kernel
theorem dX6_readsSite_105 : decode cX6_readsSite 105 = .ok (.goto (-96), 3) := by decide +kernel
theorem dX6_readsSite_108 : decode cX6_readsSite 108 = .ok (.aload_n 0, 1) := by decide +kernel
theorem dX6_readsSite_109 : decode cX6_readsSite 109 = .ok (.dup, 1) := by decide +kernel
theorem dX6_readsSite_110 : decode cX6_readsSite 110 = .ok (.getfield 146, 3) := by decide +kernel
theorem dX6_readsSite_113 : decode cX6_readsSite 113 = .ok (.iconst 1, 1) := by decide +kernel
theorem dX6_readsSite_114 : decode cX6_readsSite 114 = .ok (.iadd, 1) := by decide +kernel
theorem dX6_readsSite_115 : decode cX6_readsSite 115 = .ok (.putfield 146, 3) := by decide +kernel
theorem dX6_readsSite_118 : decode cX6_readsSite 118 = .ok (.aload_n 0, 1) := by decide +kernel
theorem dX6_readsSite_119 : decode cX6_readsSite 119 = .ok (.getfield 143, 3) := by decide +kernel
theorem dX6_readsSite_122 : decode cX6_readsSite 122 = .ok (.aload_n 0, 1) := by decide +kernel
theorem dX6_readsSite_123 : decode cX6_readsSite 123 = .ok (.getfield 140, 3) := by decide +kernel
theorem dX6_readsSite_126 : decode cX6_readsSite 126 = .ok (.if_icmp .eq 17, 3) := by decide +kernel
theorem dX6_readsSite_129 : decode cX6_readsSite 129 = .ok (.aload_n 0, 1) := by decide +kernel
theorem dX6_readsSite_130 : decode cX6_readsSite 130 = .ok (.getfield 25, 3) := by decide +kernel
theorem dX6_readsSite_133 : decode cX6_readsSite 133 = .ok (.aload_n 0, 1) := by decide +kernel
theorem dX6_readsSite_134 : decode cX6_readsSite 134 = .ok (.getfield 143, 3) := by decide +kernel
theorem dX6_readsSite_137 : decode cX6_readsSite 137 = .ok (.caload, 1) := by decide +kernel
theorem dX6_readsSite_138 : decode cX6_readsSite 138 = .ok (.bipush 59, 2) := by decide +kernel
theorem dX6_readsSite_140 : decode cX6_readsSite 140 = .ok (.if_icmp .ne 7, 3) := by decide +kernel
theorem dX6_readsSite_143 : decode cX6_readsSite 143 = .ok (.iconst 1, 1) := by decide +kernel
theorem dX6_readsSite_144 : decode cX6_readsSite 144 = .ok (.goto 4, 3) := by decide +kernel
theorem dX6_readsSite_147 : decode cX6_readsSite 147 = .ok (.iconst 0, 1) := by decide +kernel
theorem dX6_readsSite_148 : decode cX6_readsSite 148 = .ok (.ireturn, 1) := by decide +kernel
theorem dX6_readSites_0 : decode cX6_readSites 0 = .ok (.aload_n 0, 1) := by decide +kernel
theorem dX6_readSites_1 : decode cX6_readSites 1 = .ok (.iconst 0, 1) := by decide +kernel
theorem dX6_readSites_2 : decode cX6_readSites 2 = .ok (.putfield 143, 3) := by decide +kernel
theorem dX6_readSites_5 : decode cX6_readSites 5 = .ok (.aload_n 0, 1) := by decide +kernel
theorem dX6_readSites_6 : decode cX6_readSites 6 = .ok (.iconst 0, 1) := by decide +kernel
theorem dX6_readSites_7 : decode cX6_readSites 7 = .ok (.putfield 146, 3) := by decide +kernel
theorem dX6_readSites_10 : decode cX6_readSites 10 = .ok (.iconst 1, 1) := by decide +kernel
theorem dX6_readSites_11 : decode cX6_readSites 11 = .ok (.istore_n 1, 1) := by decide +kernel
theorem dX6_readSites_12 : decode cX6_readSites 12 = .ok (.iload_n 1, 1) := by decide +kernel
theorem dX6_readSites_13 : decode cX6_readSites 13 = .ok (.ifCond .eq 56, 3) := by decide +kernel
theorem dX6_readSites_16 : decode cX6_readSites 16 = .ok (.aload_n 0, 1) := by decide +kernel
theorem dX6_readSites_17 : decode cX6_readSites 17 = .ok (.invokevirtual 156, 3) := by decide +kernel
theorem dX6_readSites_20 : decode cX6_readSites 20 = .ok (.ifCond .ne 11, 3) := by decide +kernel
theorem dX6_readSites_23 : decode cX6_readSites 23 = .ok (.bipush (-100), 2) := by decide +kernel
theorem dX6_readSites_25 : decode cX6_readSites 25 = .ok (.aload_n 0, 1) := by decide +kernel
theorem dX6_readSites_26 : decode cX6_readSites 26 = .ok (.getfield 143, 3) := by decide +kernel
theorem dX6_readSites_29 : decode cX6_readSites 29 = .ok (.isub, 1) := by decide +kernel
theorem dX6_readSites_30 : decode cX6_readSites 30 = .ok (.ireturn, 1) := by decide +kernel
theorem dX6_readSites_31 : decode cX6_readSites 31 = .ok (.aload_n 0, 1) := by decide +kernel
theorem dX6_readSites_32 : decode cX6_readSites 32 = .ok (.getfield 143, 3) := by decide +kernel
theorem dX6_readSites_35 : decode cX6_readSites 35 = .ok (.aload_n 0, 1) := by decide +kernel
theorem dX6_readSites_36 : decode cX6_readSites 36 = .ok (.getfield 140, 3) := by decide +kernel
theorem dX6_readSites_39 : decode cX6_readSites 39 = .ok (.if_icmp .ge 7, 3) := by decide +kernel
theorem dX6_readSites_42 : decode cX6_readSites 42 = .ok (.iconst 1, 1) := by decide +kernel
theorem dX6_readSites_43 : decode cX6_readSites 43 = .ok (.goto 4, 3) := by decide +kernel
theorem dX6_readSites_46 : decode cX6_readSites 46 = .ok (.iconst 0, 1) := by decide +kernel
theorem dX6_readSites_47 : decode cX6_readSites 47 = .ok (.istore_n 1, 1) := by decide +kernel
theorem dX6_readSites_48 : decode cX6_readSites 48 = .ok (.aload_n 0, 1) := by decide +kernel
theorem dX6_readSites_49 : decode cX6_readSites 49 = .ok (.dup, 1) := by decide +kernel
theorem dX6_readSites_50 : decode cX6_readSites 50 = .ok (.getfield 143, 3) := by decide +kernel
theorem dX6_readSites_53 : decode cX6_readSites 53 = .ok (.iload_n 1, 1) := by decide +kernel
theorem dX6_readSites_54 : decode cX6_readSites 54 = .ok (.ifCond .eq 7, 3) := by decide +kernel
theorem dX6_readSites_57 : decode cX6_readSites 57 = .ok (.iconst 1, 1) := by decide +kernel
theorem dX6_readSites_58 : decode cX6_readSites 58 = .ok (.goto 4, 3) := by decide +kernel
theorem dX6_readSites_61 : decode cX6_readSites 61 = .ok (.iconst 0, 1) := by decide +kernel
theorem dX6_readSites_62 : decode cX6_readSites 62 = .ok (.iadd, 1) := by decide +kernel
theorem dX6_readSites_63 : decode cX6_readSites 63 = .ok (.putfield 143, 3) := by decide +kernel
theorem dX6_readSites_66 : decode cX6_readSites 66 = .ok (.goto (-54), 3) := by decide +kernel
theorem dX6_readSites_69 : decode cX6_readSites 69 = .ok (.iconst 0, 1) := by decide +kernel
theorem dX6_readSites_70 : decode cX6_readSites 70 = .ok (.istore_n 2, 1) := by decide +kernel
theorem dX6_readSites_71 : decode cX6_readSites 71 = .ok (.iload_n 2, 1) := by decide +kernel
theorem dX6_readSites_72 : decode cX6_readSites 72 = .ok (.aload_n 0, 1) := by decide +kernel
theorem dX6_readSites_73 : decode cX6_readSites 73 = .ok (.getfield 146, 3) := by decide +kernel
theorem dX6_readSites_76 : decode cX6_readSites 76 = .ok (.if_icmp .ge 39, 3) := by decide +kernel
theorem dX6_readSites_79 : decode cX6_readSites 79 = .ok (.aload_n 0, 1) := by decide +kernel
theorem dX6_readSites_80 : decode cX6_readSites 80 = .ok (.aload_n 0, 1) := by decide +kernel
theorem dX6_readSites_81 : decode cX6_readSites 81 = .ok (.getfield 29, 3) := by decide +kernel
theorem dX6_readSites_84 : decode cX6_readSites 84 = .ok (.iconst 4, 1) := by decide +kernel
theorem dX6_readSites_85 : decode cX6_readSites 85 = .ok (.iload_n 2, 1) := by decide +kernel
theorem dX6_readSites_86 : decode cX6_readSites 86 = .ok (.imul, 1) := by decide +kernel
theorem dX6_readSites_87 : decode cX6_readSites 87 = .ok (.iconst 2, 1) := by decide +kernel
theorem dX6_readSites_88 : decode cX6_readSites 88 = .ok (.iadd, 1) := by decide +kernel
theorem dX6_readSites_89 : decode cX6_readSites 89 = .ok (.iaload, 1) := by decide +kernel
theorem dX6_readSites_90 : decode cX6_readSites 90 = .ok (.aload_n 0, 1) := by decide +kernel
theorem dX6_readSites_91 : decode cX6_readSites 91 = .ok (.getfield 29, 3) := by decide +kernel
theorem dX6_readSites_94 : decode cX6_readSites 94 = .ok (.iconst 4, 1) := by decide +kernel
theorem dX6_readSites_95 : decode cX6_readSites 95 = .ok (.iload_n 2, 1) := by decide +kernel
theorem dX6_readSites_96 : decode cX6_readSites 96 = .ok (.imul, 1) := by decide +kernel
theorem dX6_readSites_97 : decode cX6_readSites 97 = .ok (.iconst 3, 1) := by decide +kernel
theorem dX6_readSites_98 : decode cX6_readSites 98 = .ok (.iadd, 1) := by decide +kernel
theorem dX6_readSites_99 : decode cX6_readSites 99 = .ok (.iaload, 1) := by decide +kernel
theorem dX6_readSites_100 : decode cX6_readSites 100 = .ok (.invokevirtual 70, 3) := by decide +kernel
theorem dX6_readSites_103 : decode cX6_readSites 103 = .ok (.ifCond .ne 6, 3) := by decide +kernel
theorem dX6_readSites_106 : decode cX6_readSites 106 = .ok (.bipush (-2), 2) := by decide +kernel
theorem dX6_readSites_108 : decode cX6_readSites 108 = .ok (.ireturn, 1) := by decide +kernel
theorem dX6_readSites_109 : decode cX6_readSites 109 = .ok (.iinc 2 1, 3) := by decide +kernel
theorem dX6_readSites_112 : decode cX6_readSites 112 = .ok (.goto (-41), 3) := by decide +kernel
theorem dX6_readSites_115 : decode cX6_readSites 115 = .ok (.aload_n 0, 1) := by decide +kernel
theorem dX6_readSites_116 : decode cX6_readSites 116 = .ok (.getfield 7, 3) := by decide +kernel
theorem dX6_readSites_119 : decode cX6_readSites 119 = .ok (.bipush 7, 2) := by decide +kernel
theorem dX6_readSites_121 : decode cX6_readSites 121 = .ok (.iaload, 1) := by decide +kernel
theorem dX6_readSites_122 : decode cX6_readSites 122 = .ok (.aload_n 0, 1) := by decide +kernel
theorem dX6_readSites_123 : decode cX6_readSites 123 = .ok (.getfield 146, 3) := by decide +kernel
theorem dX6_readSites_126 : decode cX6_readSites 126 = .ok (.iadd, 1) := by decide +kernel
theorem dX6_readSites_127 : decode cX6_readSites 127 = .ok (.bipush 12, 2) := by decide +kernel
theorem dX6_readSites_129 : decode cX6_readSites 129 = .ok (.if_icmp .le 6, 3) := by decide +kernel
theorem dX6_readSites_132 : decode cX6_readSites 132 = .ok (.bipush (-3), 2) := by decide +kernel
theorem dX6_readSites_134 : decode cX6_readSites 134 = .ok (.ireturn, 1) := by decide +kernel
theorem dX6_readSites_135 : decode cX6_readSites 135 = .ok (.aload_n 0, 1) := by decide +kernel
theorem dX6_readSites_136 : decode cX6_readSites 136 = .ok (.invokevirtual 41, 3) := by decide +kernel
theorem dX6_readSites_139 : decode cX6_readSites 139 = .ok (.iconst 0, 1) := by decide +kernel
theorem dX6_readSites_140 : decode cX6_readSites 140 = .ok (.istore_n 2, 1) := by decide +kernel
theorem dX6_readSites_141 : decode cX6_readSites 141 = .ok (.iload_n 2, 1) := by decide +kernel
theorem dX6_readSites_142 : decode cX6_readSites 142 = .ok (.aload_n 0, 1) := by decide +kernel
theorem dX6_readSites_143 : decode cX6_readSites 143 = .ok (.getfield 146, 3) := by decide +kernel
theorem dX6_readSites_146 : decode cX6_readSites 146 = .ok (.if_icmp .ge 52, 3) := by decide +kernel
theorem dX6_readSites_149 : decode cX6_readSites 149 = .ok (.aload_n 0, 1) := by decide +kernel
theorem dX6_readSites_150 : decode cX6_readSites 150 = .ok (.aload_n 0, 1) := by decide +kernel
theorem dX6_readSites_151 : decode cX6_readSites 151 = .ok (.getfield 29, 3) := by decide +kernel
theorem dX6_readSites_154 : decode cX6_readSites 154 = .ok (.iconst 4, 1) := by decide +kernel
theorem dX6_readSites_155 : decode cX6_readSites 155 = .ok (.iload_n 2, 1) := by decide +kernel
theorem dX6_readSites_156 : decode cX6_readSites 156 = .ok (.imul, 1) := by decide +kernel
theorem dX6_readSites_157 : decode cX6_readSites 157 = .ok (.iaload, 1) := by decide +kernel
theorem dX6_readSites_158 : decode cX6_readSites 158 = .ok (.aload_n 0, 1) := by decide +kernel
theorem dX6_readSites_159 : decode cX6_readSites 159 = .ok (.getfield 29, 3) := by decide +kernel
theorem dX6_readSites_162 : decode cX6_readSites 162 = .ok (.iconst 4, 1) := by decide +kernel
theorem dX6_readSites_163 : decode cX6_readSites 163 = .ok (.iload_n 2, 1) := by decide +kernel
theorem dX6_readSites_164 : decode cX6_readSites 164 = .ok (.imul, 1) := by decide +kernel
theorem dX6_readSites_165 : decode cX6_readSites 165 = .ok (.iconst 1, 1) := by decide +kernel
theorem dX6_readSites_166 : decode cX6_readSites 166 = .ok (.iadd, 1) := by decide +kernel
theorem dX6_readSites_167 : decode cX6_readSites 167 = .ok (.iaload, 1) := by decide +kernel
theorem dX6_readSites_168 : decode cX6_readSites 168 = .ok (.aload_n 0, 1) := by decide +kernel
theorem dX6_readSites_169 : decode cX6_readSites 169 = .ok (.getfield 29, 3) := by decide +kernel
theorem dX6_readSites_172 : decode cX6_readSites 172 = .ok (.iconst 4, 1) := by decide +kernel
theorem dX6_readSites_173 : decode cX6_readSites 173 = .ok (.iload_n 2, 1) := by decide +kernel
theorem dX6_readSites_174 : decode cX6_readSites 174 = .ok (.imul, 1) := by decide +kernel
theorem dX6_readSites_175 : decode cX6_readSites 175 = .ok (.iconst 2, 1) := by decide +kernel
theorem dX6_readSites_176 : decode cX6_readSites 176 = .ok (.iadd, 1) := by decide +kernel
theorem dX6_readSites_177 : decode cX6_readSites 177 = .ok (.iaload, 1) := by decide +kernel
theorem dX6_readSites_178 : decode cX6_readSites 178 = .ok (.aload_n 0, 1) := by decide +kernel
theorem dX6_readSites_179 : decode cX6_readSites 179 = .ok (.getfield 29, 3) := by decide +kernel
theorem dX6_readSites_182 : decode cX6_readSites 182 = .ok (.iconst 4, 1) := by decide +kernel
theorem dX6_readSites_183 : decode cX6_readSites 183 = .ok (.iload_n 2, 1) := by decide +kernel
theorem dX6_readSites_184 : decode cX6_readSites 184 = .ok (.imul, 1) := by decide +kernel
theorem dX6_readSites_185 : decode cX6_readSites 185 = .ok (.iconst 3, 1) := by decide +kernel
theorem dX6_readSites_186 : decode cX6_readSites 186 = .ok (.iadd, 1) := by decide +kernel
theorem dX6_readSites_187 : decode cX6_readSites 187 = .ok (.iaload, 1) := by decide +kernel
theorem dX6_readSites_188 : decode cX6_readSites 188 = .ok (.invokevirtual 74, 3) := by decide +kernel
theorem dX6_readSites_191 : decode cX6_readSites 191 = .ok (.istore_n 3, 1) := by decide +kernel
theorem dX6_readSites_192 : decode cX6_readSites 192 = .ok (.iinc 2 1, 3) := by decide +kernel
theorem dX6_readSites_195 : decode cX6_readSites 195 = .ok (.goto (-54), 3) := by decide +kernel
theorem dX6_readSites_198 : decode cX6_readSites 198 = .ok (.aload_n 0, 1) := by decide +kernel
theorem dX6_readSites_199 : decode cX6_readSites 199 = .ok (.getfield 146, 3) := by decide +kernel
theorem dX6_readSites_202 : decode cX6_readSites 202 = .ok (.ireturn, 1) := by decide +kernel
theorem dX6_undo_0 : decode cX6_undo 0 = .ok (.aload_n 0, 1) := by decide +kernel
theorem dX6_undo_1 : decode cX6_undo 1 = .ok (.getfield 32, 3) := by decide +kernel
theorem dX6_undo_4 : decode cX6_undo 4 = .ok (.ifCond .ne 6, 3) := by decide +kernel
theorem dX6_undo_7 : decode cX6_undo 7 = .ok (.bipush (-5), 2) := by decide +kernel
theorem dX6_undo_9 : decode cX6_undo 9 = .ok (.ireturn, 1) := by decide +kernel
theorem dX6_undo_10 : decode cX6_undo 10 = .ok (.aload_n 0, 1) := by decide +kernel
theorem dX6_undo_11 : decode cX6_undo 11 = .ok (.dup, 1) := by decide +kernel
theorem dX6_undo_12 : decode cX6_undo 12 = .ok (.getfield 32, 3) := by decide +kernel
theorem dX6_undo_15 : decode cX6_undo 15 = .ok (.iconst 1, 1) := by decide +kernel
theorem dX6_undo_16 : decode cX6_undo 16 = .ok (.isub, 1) := by decide +kernel
theorem dX6_undo_17 : decode cX6_undo 17 = .ok (.putfield 32, 3) := by decide +kernel
theorem dX6_undo_20 : decode cX6_undo 20 = .ok (.iconst 0, 1) := by decide +kernel
theorem dX6_undo_21 : decode cX6_undo 21 = .ok (.istore_n 1, 1) := by decide +kernel
theorem dX6_undo_22 : decode cX6_undo 22 = .ok (.iload_n 1, 1) := by decide +kernel
theorem dX6_undo_23 : decode cX6_undo 23 = .ok (.sipush 236, 3) := by decide +kernel
theorem dX6_undo_26 : decode cX6_undo 26 = .ok (.if_icmp .ge 30, 3) := by decide +kernel
theorem dX6_undo_29 : decode cX6_undo 29 = .ok (.aload_n 0, 1) := by decide +kernel
theorem dX6_undo_30 : decode cX6_undo 30 = .ok (.getfield 7, 3) := by decide +kernel
theorem dX6_undo_33 : decode cX6_undo 33 = .ok (.iload_n 1, 1) := by decide +kernel
theorem dX6_undo_34 : decode cX6_undo 34 = .ok (.aload_n 0, 1) := by decide +kernel
theorem dX6_undo_35 : decode cX6_undo 35 = .ok (.getfield 13, 3) := by decide +kernel
theorem dX6_undo_38 : decode cX6_undo 38 = .ok (.sipush 236, 3) := by decide +kernel
theorem dX6_undo_41 : decode cX6_undo 41 = .ok (.aload_n 0, 1) := by decide +kernel
theorem dX6_undo_42 : decode cX6_undo 42 = .ok (.getfield 32, 3) := by decide +kernel
theorem dX6_undo_45 : decode cX6_undo 45 = .ok (.imul, 1) := by decide +kernel
theorem dX6_undo_46 : decode cX6_undo 46 = .ok (.iload_n 1, 1) := by decide +kernel
theorem dX6_undo_47 : decode cX6_undo 47 = .ok (.iadd, 1) := by decide +kernel
theorem dX6_undo_48 : decode cX6_undo 48 = .ok (.iaload, 1) := by decide +kernel
theorem dX6_undo_49 : decode cX6_undo 49 = .ok (.iastore, 1) := by decide +kernel
theorem dX6_undo_50 : decode cX6_undo 50 = .ok (.iinc 1 1, 3) := by decide +kernel
theorem dX6_undo_53 : decode cX6_undo 53 = .ok (.goto (-31), 3) := by decide +kernel
theorem dX6_undo_56 : decode cX6_undo 56 = .ok (.aload_n 0, 1) := by decide +kernel
theorem dX6_undo_57 : decode cX6_undo 57 = .ok (.getfield 32, 3) := by decide +kernel
theorem dX6_undo_60 : decode cX6_undo 60 = .ok (.ireturn, 1) := by decide +kernel
theorem dX6_keep_0 : decode cX6_keep 0 = .ok (.iconst 0, 1) := by decide +kernel
theorem dX6_keep_1 : decode cX6_keep 1 = .ok (.istore_n 1, 1) := by decide +kernel
theorem dX6_keep_2 : decode cX6_keep 2 = .ok (.iload_n 1, 1) := by decide +kernel
theorem dX6_keep_3 : decode cX6_keep 3 = .ok (.sipush 236, 3) := by decide +kernel
theorem dX6_keep_6 : decode cX6_keep 6 = .ok (.if_icmp .ge 21, 3) := by decide +kernel
theorem dX6_keep_9 : decode cX6_keep 9 = .ok (.aload_n 0, 1) := by decide +kernel
theorem dX6_keep_10 : decode cX6_keep 10 = .ok (.getfield 16, 3) := by decide +kernel
theorem dX6_keep_13 : decode cX6_keep 13 = .ok (.iload_n 1, 1) := by decide +kernel
theorem dX6_keep_14 : decode cX6_keep 14 = .ok (.aload_n 0, 1) := by decide +kernel
theorem dX6_keep_15 : decode cX6_keep 15 = .ok (.getfield 7, 3) := by decide +kernel
theorem dX6_keep_18 : decode cX6_keep 18 = .ok (.iload_n 1, 1) := by decide +kernel
theorem dX6_keep_19 : decode cX6_keep 19 = .ok (.iaload, 1) := by decide +kernel
theorem dX6_keep_20 : decode cX6_keep 20 = .ok (.iastore, 1) := by decide +kernel
theorem dX6_keep_21 : decode cX6_keep 21 = .ok (.iinc 1 1, 3) := by decide +kernel
theorem dX6_keep_24 : decode cX6_keep 24 = .ok (.goto (-22), 3) := by decide +kernel
theorem dX6_keep_27 : decode cX6_keep 27 = .ok (.aload_n 0, 1) := by decide +kernel
theorem dX6_keep_28 : decode cX6_keep 28 = .ok (.iconst 1, 1) := by decide +kernel
theorem dX6_keep_29 : decode cX6_keep 29 = .ok (.putfield 160, 3) := by decide +kernel
theorem dX6_keep_32 : decode cX6_keep 32 = .ok (.aload_n 0, 1) := by decide +kernel
theorem dX6_keep_33 : decode cX6_keep 33 = .ok (.getfield 7, 3) := by decide +kernel
theorem dX6_keep_36 : decode cX6_keep 36 = .ok (.iconst 0, 1) := by decide +kernel
theorem dX6_keep_37 : decode cX6_keep 37 = .ok (.iaload, 1) := by decide +kernel
theorem dX6_keep_38 : decode cX6_keep 38 = .ok (.ireturn, 1) := by decide +kernel
theorem dX6_restore_0 : decode cX6_restore 0 = .ok (.aload_n 0, 1) := by decide +kernel
theorem dX6_restore_1 : decode cX6_restore 1 = .ok (.getfield 160, 3) := by decide +kernel
theorem dX6_restore_4 : decode cX6_restore 4 = .ok (.ifCond .ne 6, 3) := by decide +kernel
theorem dX6_restore_7 : decode cX6_restore 7 = .ok (.bipush (-5), 2) := by decide +kernel
theorem dX6_restore_9 : decode cX6_restore 9 = .ok (.ireturn, 1) := by decide +kernel
theorem dX6_restore_10 : decode cX6_restore 10 = .ok (.aload_n 0, 1) := by decide +kernel
theorem dX6_restore_11 : decode cX6_restore 11 = .ok (.invokevirtual 41, 3) := by decide +kernel
theorem dX6_restore_14 : decode cX6_restore 14 = .ok (.iconst 0, 1) := by decide +kernel
theorem dX6_restore_15 : decode cX6_restore 15 = .ok (.istore_n 1, 1) := by decide +kernel
theorem dX6_restore_16 : decode cX6_restore 16 = .ok (.iload_n 1, 1) := by decide +kernel
theorem dX6_restore_17 : decode cX6_restore 17 = .ok (.sipush 236, 3) := by decide +kernel
theorem dX6_restore_20 : decode cX6_restore 20 = .ok (.if_icmp .ge 21, 3) := by decide +kernel
theorem dX6_restore_23 : decode cX6_restore 23 = .ok (.aload_n 0, 1) := by decide +kernel
theorem dX6_restore_24 : decode cX6_restore 24 = .ok (.getfield 7, 3) := by decide +kernel
theorem dX6_restore_27 : decode cX6_restore 27 = .ok (.iload_n 1, 1) := by decide +kernel
theorem dX6_restore_28 : decode cX6_restore 28 = .ok (.aload_n 0, 1) := by decide +kernel
theorem dX6_restore_29 : decode cX6_restore 29 = .ok (.getfield 16, 3) := by decide +kernel
theorem dX6_restore_32 : decode cX6_restore 32 = .ok (.iload_n 1, 1) := by decide +kernel
theorem dX6_restore_33 : decode cX6_restore 33 = .ok (.iaload, 1) := by decide +kernel
theorem dX6_restore_34 : decode cX6_restore 34 = .ok (.iastore, 1) := by decide +kernel
theorem dX6_restore_35 : decode cX6_restore 35 = .ok (.iinc 1 1, 3) := by decide +kernel
theorem dX6_restore_38 : decode cX6_restore 38 = .ok (.goto (-22), 3) := by decide +kernel
theorem dX6_restore_41 : decode cX6_restore 41 = .ok (.aload_n 0, 1) := by decide +kernel
theorem dX6_restore_42 : decode cX6_restore 42 = .ok (.getfield 7, 3) := by decide +kernel
theorem dX6_restore_45 : decode cX6_restore 45 = .ok (.iconst 0, 1) := by decide +kernel
theorem dX6_restore_46 : decode cX6_restore 46 = .ok (.iaload, 1) := by decide +kernel
theorem dX6_restore_47 : decode cX6_restore 47 = .ok (.ireturn, 1) := by decide +kernel
theorem dX6_set_0 : decode cX6_set 0 = .ok (.aload_n 0, 1) := by decide +kernel
theorem dX6_set_1 : decode cX6_set 1 = .ok (.iload_n 1, 1) := by decide +kernel
theorem dX6_set_2 : decode cX6_set 2 = .ok (.invokevirtual 52, 3) := by decide +kernel
theorem dX6_set_5 : decode cX6_set 5 = .ok (.ifCond .eq 5, 3) := by decide +kernel
theorem dX6_set_8 : decode cX6_set 8 = .ok (.iconst (-1), 1) := by decide +kernel
theorem dX6_set_9 : decode cX6_set 9 = .ok (.ireturn, 1) := by decide +kernel
theorem dX6_set_10 : decode cX6_set 10 = .ok (.iload_n 2, 1) := by decide +kernel
theorem dX6_set_11 : decode cX6_set 11 = .ok (.iconst 5, 1) := by decide +kernel
theorem dX6_set_12 : decode cX6_set 12 = .ok (.if_icmp .ne 26, 3) := by decide +kernel
theorem dX6_set_15 : decode cX6_set 15 = .ok (.aload_n 0, 1) := by decide +kernel
theorem dX6_set_16 : decode cX6_set 16 = .ok (.iload_n 1, 1) := by decide +kernel
theorem dX6_set_17 : decode cX6_set 17 = .ok (.iconst 5, 1) := by decide +kernel
theorem dX6_set_18 : decode cX6_set 18 = .ok (.invokevirtual 48, 3) := by decide +kernel
theorem dX6_set_21 : decode cX6_set 21 = .ok (.ifCond .ne 8, 3) := by decide +kernel
theorem dX6_set_24 : decode cX6_set 24 = .ok (.bipush (-5), 2) := by decide +kernel
theorem dX6_set_26 : decode cX6_set 26 = .ok (.goto 11, 3) := by decide +kernel
theorem dX6_set_29 : decode cX6_set 29 = .ok (.aload_n 0, 1) := by decide +kernel
theorem dX6_set_30 : decode cX6_set 30 = .ok (.iload_n 1, 1) := by decide +kernel
theorem dX6_set_31 : decode cX6_set 31 = .ok (.iconst 5, 1) := by decide +kernel
theorem dX6_set_32 : decode cX6_set 32 = .ok (.invokevirtual 48, 3) := by decide +kernel
theorem dX6_set_35 : decode cX6_set 35 = .ok (.iconst 1, 1) := by decide +kernel
theorem dX6_set_36 : decode cX6_set 36 = .ok (.isub, 1) := by decide +kernel
theorem dX6_set_37 : decode cX6_set 37 = .ok (.ireturn, 1) := by decide +kernel
theorem dX6_set_38 : decode cX6_set 38 = .ok (.iload_n 2, 1) := by decide +kernel
theorem dX6_set_39 : decode cX6_set 39 = .ok (.iconst 0, 1) := by decide +kernel
theorem dX6_set_40 : decode cX6_set 40 = .ok (.bipush 8, 2) := by decide +kernel
theorem dX6_set_42 : decode cX6_set 42 = .ok (.invokestatic 36, 3) := by decide +kernel
theorem dX6_set_45 : decode cX6_set 45 = .ok (.ifCond .eq 12, 3) := by decide +kernel
theorem dX6_set_48 : decode cX6_set 48 = .ok (.aload_n 0, 1) := by decide +kernel
theorem dX6_set_49 : decode cX6_set 49 = .ok (.iload_n 1, 1) := by decide +kernel
theorem dX6_set_50 : decode cX6_set 50 = .ok (.iload_n 2, 1) := by decide +kernel
theorem dX6_set_51 : decode cX6_set 51 = .ok (.invokevirtual 48, 3) := by decide +kernel
theorem dX6_set_54 : decode cX6_set 54 = .ok (.goto 19, 3) := by decide +kernel
theorem dX6_set_57 : decode cX6_set 57 = .ok (.iload_n 2, 1) := by decide +kernel
theorem dX6_set_58 : decode cX6_set 58 = .ok (.bipush 9, 2) := by decide +kernel
theorem dX6_set_60 : decode cX6_set 60 = .ok (.if_icmp .ne 11, 3) := by decide +kernel
theorem dX6_set_63 : decode cX6_set 63 = .ok (.aload_n 0, 1) := by decide +kernel
theorem dX6_set_64 : decode cX6_set 64 = .ok (.iload_n 1, 1) := by decide +kernel
theorem dX6_set_65 : decode cX6_set 65 = .ok (.invokevirtual 119, 3) := by decide +kernel
theorem dX6_set_68 : decode cX6_set 68 = .ok (.goto 5, 3) := by decide +kernel
theorem dX6_set_71 : decode cX6_set 71 = .ok (.bipush (-2), 2) := by decide +kernel
theorem dX6_set_73 : decode cX6_set 73 = .ok (.ireturn, 1) := by decide +kernel
theorem dX6_site_0 : decode cX6_site 0 = .ok (.aload_n 0, 1) := by decide +kernel
theorem dX6_site_1 : decode cX6_site 1 = .ok (.iload_n 1, 1) := by decide +kernel
theorem dX6_site_2 : decode cX6_site 2 = .ok (.invokevirtual 84, 3) := by decide +kernel
theorem dX6_site_5 : decode cX6_site 5 = .ok (.ifCond .eq 5, 3) := by decide +kernel
theorem dX6_site_8 : decode cX6_site 8 = .ok (.iconst (-1), 1) := by decide +kernel
theorem dX6_site_9 : decode cX6_site 9 = .ok (.ireturn, 1) := by decide +kernel
theorem dX6_site_10 : decode cX6_site 10 = .ok (.iload_n 2, 1) := by decide +kernel
theorem dX6_site_11 : decode cX6_site 11 = .ok (.lookupswitch 89 #[(4, 33), (8, 52), (9, 75)], 33) := by decide +kernel
theorem dX6_site_44 : decode cX6_site 44 = .ok (.aload_n 0, 1) := by decide +kernel
theorem dX6_site_45 : decode cX6_site 45 = .ok (.iload_n 1, 1) := by decide +kernel
theorem dX6_site_46 : decode cX6_site 46 = .ok (.invokevirtual 81, 3) := by decide +kernel
theorem dX6_site_49 : decode cX6_site 49 = .ok (.ifCond .ge 8, 3) := by decide +kernel
theorem dX6_site_52 : decode cX6_site 52 = .ok (.bipush (-5), 2) := by decide +kernel
theorem dX6_site_54 : decode cX6_site 54 = .ok (.goto 8, 3) := by decide +kernel
theorem dX6_site_57 : decode cX6_site 57 = .ok (.aload_n 0, 1) := by decide +kernel
theorem dX6_site_58 : decode cX6_site 58 = .ok (.iload_n 1, 1) := by decide +kernel
theorem dX6_site_59 : decode cX6_site 59 = .ok (.invokevirtual 81, 3) := by decide +kernel
theorem dX6_site_62 : decode cX6_site 62 = .ok (.ireturn, 1) := by decide +kernel
theorem dX6_site_63 : decode cX6_site 63 = .ok (.aload_n 0, 1) := by decide +kernel
theorem dX6_site_64 : decode cX6_site 64 = .ok (.iload_n 1, 1) := by decide +kernel
theorem dX6_site_65 : decode cX6_site 65 = .ok (.bipush 8, 2) := by decide +kernel
theorem dX6_site_67 : decode cX6_site 67 = .ok (.invokevirtual 78, 3) := by decide +kernel
theorem dX6_site_70 : decode cX6_site 70 = .ok (.ifCond .ne 8, 3) := by decide +kernel
theorem dX6_site_73 : decode cX6_site 73 = .ok (.bipush (-5), 2) := by decide +kernel
theorem dX6_site_75 : decode cX6_site 75 = .ok (.goto 10, 3) := by decide +kernel
theorem dX6_site_78 : decode cX6_site 78 = .ok (.aload_n 0, 1) := by decide +kernel
theorem dX6_site_79 : decode cX6_site 79 = .ok (.iload_n 1, 1) := by decide +kernel
theorem dX6_site_80 : decode cX6_site 80 = .ok (.bipush 8, 2) := by decide +kernel
theorem dX6_site_82 : decode cX6_site 82 = .ok (.invokevirtual 78, 3) := by decide +kernel
theorem dX6_site_85 : decode cX6_site 85 = .ok (.ireturn, 1) := by decide +kernel
theorem dX6_site_86 : decode cX6_site 86 = .ok (.aload_n 0, 1) := by decide +kernel
theorem dX6_site_87 : decode cX6_site 87 = .ok (.iload_n 1, 1) := by decide +kernel
theorem dX6_site_88 : decode cX6_site 88 = .ok (.invokevirtual 101, 3) := by decide +kernel
theorem dX6_site_91 : decode cX6_site 91 = .ok (.ifCond .eq 7, 3) := by decide +kernel
theorem dX6_site_94 : decode cX6_site 94 = .ok (.iconst 1, 1) := by decide +kernel
theorem dX6_site_95 : decode cX6_site 95 = .ok (.goto 4, 3) := by decide +kernel
theorem dX6_site_98 : decode cX6_site 98 = .ok (.iconst 0, 1) := by decide +kernel
theorem dX6_site_99 : decode cX6_site 99 = .ok (.ireturn, 1) := by decide +kernel
theorem dX6_site_100 : decode cX6_site 100 = .ok (.iload_n 2, 1) := by decide +kernel
theorem dX6_site_101 : decode cX6_site 101 = .ok (.iconst 0, 1) := by decide +kernel
theorem dX6_site_102 : decode cX6_site 102 = .ok (.bipush 7, 2) := by decide +kernel
theorem dX6_site_104 : decode cX6_site 104 = .ok (.invokestatic 36, 3) := by decide +kernel
theorem dX6_site_107 : decode cX6_site 107 = .ok (.ifCond .eq 12, 3) := by decide +kernel
theorem dX6_site_110 : decode cX6_site 110 = .ok (.aload_n 0, 1) := by decide +kernel
theorem dX6_site_111 : decode cX6_site 111 = .ok (.iload_n 1, 1) := by decide +kernel
theorem dX6_site_112 : decode cX6_site 112 = .ok (.iload_n 2, 1) := by decide +kernel
theorem dX6_site_113 : decode cX6_site 113 = .ok (.invokevirtual 78, 3) := by decide +kernel
theorem dX6_site_116 : decode cX6_site 116 = .ok (.goto 5, 3) := by decide +kernel
theorem dX6_site_119 : decode cX6_site 119 = .ok (.bipush (-2), 2) := by decide +kernel
theorem dX6_site_121 : decode cX6_site 121 = .ok (.ireturn, 1) := by decide +kernel
theorem dX6_why_0 : decode cX6_why 0 = .ok (.aload_n 0, 1) := by decide +kernel
theorem dX6_why_1 : decode cX6_why 1 = .ok (.iload_n 1, 1) := by decide +kernel
theorem dX6_why_2 : decode cX6_why 2 = .ok (.invokevirtual 84, 3) := by decide +kernel
theorem dX6_why_5 : decode cX6_why 5 = .ok (.ifCond .eq 5, 3) := by decide +kernel
theorem dX6_why_8 : decode cX6_why 8 = .ok (.iconst (-1), 1) := by decide +kernel
theorem dX6_why_9 : decode cX6_why 9 = .ok (.ireturn, 1) := by decide +kernel
theorem dX6_why_10 : decode cX6_why 10 = .ok (.aload_n 0, 1) := by decide +kernel
theorem dX6_why_11 : decode cX6_why 11 = .ok (.iload_n 1, 1) := by decide +kernel
theorem dX6_why_12 : decode cX6_why 12 = .ok (.invokevirtual 101, 3) := by decide +kernel
theorem dX6_why_15 : decode cX6_why 15 = .ok (.ifCond .ne 6, 3) := by decide +kernel
theorem dX6_why_18 : decode cX6_why 18 = .ok (.bipush (-5), 2) := by decide +kernel
theorem dX6_why_20 : decode cX6_why 20 = .ok (.ireturn, 1) := by decide +kernel
theorem dX6_why_21 : decode cX6_why 21 = .ok (.aload_n 0, 1) := by decide +kernel
theorem dX6_why_22 : decode cX6_why 22 = .ok (.iload_n 1, 1) := by decide +kernel
theorem dX6_why_23 : decode cX6_why 23 = .ok (.invokevirtual 81, 3) := by decide +kernel
theorem dX6_why_26 : decode cX6_why 26 = .ok (.ifCond .ge 7, 3) := by decide +kernel
theorem dX6_why_29 : decode cX6_why 29 = .ok (.iconst 1, 1) := by decide +kernel
theorem dX6_why_30 : decode cX6_why 30 = .ok (.goto 12, 3) := by decide +kernel
theorem dX6_why_33 : decode cX6_why 33 = .ok (.aload_n 0, 1) := by decide +kernel
theorem dX6_why_34 : decode cX6_why 34 = .ok (.aload_n 0, 1) := by decide +kernel
theorem dX6_why_35 : decode cX6_why 35 = .ok (.iload_n 1, 1) := by decide +kernel
theorem dX6_why_36 : decode cX6_why 36 = .ok (.invokevirtual 81, 3) := by decide +kernel
theorem dX6_why_39 : decode cX6_why 39 = .ok (.invokevirtual 125, 3) := by decide +kernel
theorem dX6_why_42 : decode cX6_why 42 = .ok (.ireturn, 1) := by decide +kernel
theorem dX6_needy_0 : decode cX6_needy 0 = .ok (.iload_n 1, 1) := by decide +kernel
theorem dX6_needy_1 : decode cX6_needy 1 = .ok (.ifCond .ge 8, 3) := by decide +kernel
theorem dX6_needy_4 : decode cX6_needy 4 = .ok (.bipush (-2), 2) := by decide +kernel
theorem dX6_needy_6 : decode cX6_needy 6 = .ok (.goto 8, 3) := by decide +kernel
theorem dX6_needy_9 : decode cX6_needy 9 = .ok (.aload_n 0, 1) := by decide +kernel
theorem dX6_needy_10 : decode cX6_needy 10 = .ok (.iload_n 1, 1) := by decide +kernel
theorem dX6_needy_11 : decode cX6_needy 11 = .ok (.invokevirtual 113, 3) := by decide +kernel
theorem dX6_needy_14 : decode cX6_needy 14 = .ok (.ireturn, 1) := by decide +kernel
theorem dX6_thirsty_0 : decode cX6_thirsty 0 = .ok (.iload_n 1, 1) := by decide +kernel
theorem dX6_thirsty_1 : decode cX6_thirsty 1 = .ok (.ifCond .ge 8, 3) := by decide +kernel
theorem dX6_thirsty_4 : decode cX6_thirsty 4 = .ok (.bipush (-2), 2) := by decide +kernel
theorem dX6_thirsty_6 : decode cX6_thirsty 6 = .ok (.goto 8, 3) := by decide +kernel
theorem dX6_thirsty_9 : decode cX6_thirsty 9 = .ok (.aload_n 0, 1) := by decide +kernel
theorem dX6_thirsty_10 : decode cX6_thirsty 10 = .ok (.iload_n 1, 1) := by decide +kernel
theorem dX6_thirsty_11 : decode cX6_thirsty 11 = .ok (.invokevirtual 122, 3) := by decide +kernel
theorem dX6_thirsty_14 : decode cX6_thirsty 14 = .ok (.ireturn, 1) := by decide +kernel
theorem dX6_darkest_0 : decode cX6_darkest 0 = .ok (.bipush (-5), 2) := by decide +kernel
theorem dX6_darkest_2 : decode cX6_darkest 2 = .ok (.istore_n 1, 1) := by decide +kernel
theorem dX6_darkest_3 : decode cX6_darkest 3 = .ok (.iconst 0, 1) := by decide +kernel
theorem dX6_darkest_4 : decode cX6_darkest 4 = .ok (.istore_n 2, 1) := by decide +kernel
theorem dX6_darkest_5 : decode cX6_darkest 5 = .ok (.iconst 0, 1) := by decide +kernel
theorem dX6_darkest_6 : decode cX6_darkest 6 = .ok (.istore_n 3, 1) := by decide +kernel
theorem dX6_darkest_7 : decode cX6_darkest 7 = .ok (.iload_n 3, 1) := by decide +kernel
theorem dX6_darkest_8 : decode cX6_darkest 8 = .ok (.aload_n 0, 1) := by decide +kernel
theorem dX6_darkest_9 : decode cX6_darkest 9 = .ok (.getfield 7, 3) := by decide +kernel
theorem dX6_darkest_12 : decode cX6_darkest 12 = .ok (.bipush 7, 2) := by decide +kernel
theorem dX6_darkest_14 : decode cX6_darkest 14 = .ok (.iaload, 1) := by decide +kernel
theorem dX6_darkest_15 : decode cX6_darkest 15 = .ok (.if_icmp .ge 59, 3) := by decide +kernel
theorem dX6_darkest_18 : decode cX6_darkest 18 = .ok (.aload_n 0, 1) := by decide +kernel
theorem dX6_darkest_19 : decode cX6_darkest 19 = .ok (.iload_n 3, 1) := by decide +kernel
theorem dX6_darkest_20 : decode cX6_darkest 20 = .ok (.bipush 6, 2) := by decide +kernel
theorem dX6_darkest_22 : decode cX6_darkest 22 = .ok (.invokevirtual 78, 3) := by decide +kernel
theorem dX6_darkest_25 : decode cX6_darkest 25 = .ok (.aload_n 0, 1) := by decide +kernel
theorem dX6_darkest_26 : decode cX6_darkest 26 = .ok (.getfield 19, 3) := by decide +kernel
theorem dX6_darkest_29 : decode cX6_darkest 29 = .ok (.bipush 116, 2) := by decide +kernel
theorem dX6_darkest_31 : decode cX6_darkest 31 = .ok (.bipush 10, 2) := by decide +kernel
theorem dX6_darkest_33 : decode cX6_darkest 33 = .ok (.iload_n 3, 1) := by decide +kernel
theorem dX6_darkest_34 : decode cX6_darkest 34 = .ok (.imul, 1) := by decide +kernel
theorem dX6_darkest_35 : decode cX6_darkest 35 = .ok (.iadd, 1) := by decide +kernel
theorem dX6_darkest_36 : decode cX6_darkest 36 = .ok (.bipush 6, 2) := by decide +kernel
theorem dX6_darkest_38 : decode cX6_darkest 38 = .ok (.iadd, 1) := by decide +kernel
theorem dX6_darkest_39 : decode cX6_darkest 39 = .ok (.iaload, 1) := by decide +kernel
theorem dX6_darkest_40 : decode cX6_darkest 40 = .ok (.isub, 1) := by decide +kernel
theorem dX6_darkest_41 : decode cX6_darkest 41 = .ok (.istore 4, 2) := by decide +kernel
theorem dX6_darkest_43 : decode cX6_darkest 43 = .ok (.iload 4, 2) := by decide +kernel
theorem dX6_darkest_45 : decode cX6_darkest 45 = .ok (.iload_n 2, 1) := by decide +kernel
theorem dX6_darkest_46 : decode cX6_darkest 46 = .ok (.if_icmp .le 7, 3) := by decide +kernel
theorem dX6_darkest_49 : decode cX6_darkest 49 = .ok (.iload_n 3, 1) := by decide +kernel
theorem dX6_darkest_50 : decode cX6_darkest 50 = .ok (.goto 4, 3) := by decide +kernel
theorem dX6_darkest_53 : decode cX6_darkest 53 = .ok (.iload_n 1, 1) := by decide +kernel
theorem dX6_darkest_54 : decode cX6_darkest 54 = .ok (.istore_n 1, 1) := by decide +kernel
theorem dX6_darkest_55 : decode cX6_darkest 55 = .ok (.iload 4, 2) := by decide +kernel
theorem dX6_darkest_57 : decode cX6_darkest 57 = .ok (.iload_n 2, 1) := by decide +kernel
theorem dX6_darkest_58 : decode cX6_darkest 58 = .ok (.if_icmp .le 8, 3) := by decide +kernel
theorem dX6_darkest_61 : decode cX6_darkest 61 = .ok (.iload 4, 2) := by decide +kernel
theorem dX6_darkest_63 : decode cX6_darkest 63 = .ok (.goto 4, 3) := by decide +kernel
theorem dX6_darkest_66 : decode cX6_darkest 66 = .ok (.iload_n 2, 1) := by decide +kernel
theorem dX6_darkest_67 : decode cX6_darkest 67 = .ok (.istore_n 2, 1) := by decide +kernel
theorem dX6_darkest_68 : decode cX6_darkest 68 = .ok (.iinc 3 1, 3) := by decide +kernel
theorem dX6_darkest_71 : decode cX6_darkest 71 = .ok (.goto (-64), 3) := by decide +kernel
theorem dX6_darkest_74 : decode cX6_darkest 74 = .ok (.iload_n 1, 1) := by decide +kernel
theorem dX6_darkest_75 : decode cX6_darkest 75 = .ok (.ireturn, 1) := by decide +kernel
theorem dX6_forecast_0 : decode cX6_forecast 0 = .ok (.iload_n 1, 1) := by decide +kernel
theorem dX6_forecast_1 : decode cX6_forecast 1 = .ok (.iconst 1, 1) := by decide +kernel
theorem dX6_forecast_2 : decode cX6_forecast 2 = .ok (.bipush 24, 2) := by decide +kernel
theorem dX6_forecast_4 : decode cX6_forecast 4 = .ok (.invokestatic 36, 3) := by decide +kernel
theorem dX6_forecast_7 : decode cX6_forecast 7 = .ok (.ifCond .eq 12, 3) := by decide +kernel
theorem dX6_forecast_10 : decode cX6_forecast 10 = .ok (.iload_n 2, 1) := by decide +kernel
theorem dX6_forecast_11 : decode cX6_forecast 11 = .ok (.iconst 0, 1) := by decide +kernel
theorem dX6_forecast_12 : decode cX6_forecast 12 = .ok (.iconst 3, 1) := by decide +kernel
theorem dX6_forecast_13 : decode cX6_forecast 13 = .ok (.invokestatic 36, 3) := by decide +kernel
theorem dX6_forecast_16 : decode cX6_forecast 16 = .ok (.ifCond .ne 6, 3) := by decide +kernel
theorem dX6_forecast_19 : decode cX6_forecast 19 = .ok (.bipush (-2), 2) := by decide +kernel
theorem dX6_forecast_21 : decode cX6_forecast 21 = .ok (.ireturn, 1) := by decide +kernel
theorem dX6_forecast_22 : decode cX6_forecast 22 = .ok (.aload_n 0, 1) := by decide +kernel
theorem dX6_forecast_23 : decode cX6_forecast 23 = .ok (.getfield 7, 3) := by decide +kernel
theorem dX6_forecast_26 : decode cX6_forecast 26 = .ok (.iconst 0, 1) := by decide +kernel
theorem dX6_forecast_27 : decode cX6_forecast 27 = .ok (.iaload, 1) := by decide +kernel
theorem dX6_forecast_28 : decode cX6_forecast 28 = .ok (.iload_n 1, 1) := by decide +kernel
theorem dX6_forecast_29 : decode cX6_forecast 29 = .ok (.iadd, 1) := by decide +kernel
theorem dX6_forecast_30 : decode cX6_forecast 30 = .ok (.sipush 999, 3) := by decide +kernel
theorem dX6_forecast_33 : decode cX6_forecast 33 = .ok (.if_icmp .le 6, 3) := by decide +kernel
theorem dX6_forecast_36 : decode cX6_forecast 36 = .ok (.bipush (-4), 2) := by decide +kernel
theorem dX6_forecast_38 : decode cX6_forecast 38 = .ok (.ireturn, 1) := by decide +kernel
theorem dX6_forecast_39 : decode cX6_forecast 39 = .ok (.iconst 0, 1) := by decide +kernel
theorem dX6_forecast_40 : decode cX6_forecast 40 = .ok (.istore_n 3, 1) := by decide +kernel
theorem dX6_forecast_41 : decode cX6_forecast 41 = .ok (.iload_n 3, 1) := by decide +kernel
theorem dX6_forecast_42 : decode cX6_forecast 42 = .ok (.sipush 236, 3) := by decide +kernel
theorem dX6_forecast_45 : decode cX6_forecast 45 = .ok (.if_icmp .ge 21, 3) := by decide +kernel
theorem dX6_forecast_48 : decode cX6_forecast 48 = .ok (.aload_n 0, 1) := by decide +kernel
theorem dX6_forecast_49 : decode cX6_forecast 49 = .ok (.getfield 19, 3) := by decide +kernel
theorem dX6_forecast_52 : decode cX6_forecast 52 = .ok (.iload_n 3, 1) := by decide +kernel
theorem dX6_forecast_53 : decode cX6_forecast 53 = .ok (.aload_n 0, 1) := by decide +kernel
theorem dX6_forecast_54 : decode cX6_forecast 54 = .ok (.getfield 7, 3) := by decide +kernel
theorem dX6_forecast_57 : decode cX6_forecast 57 = .ok (.iload_n 3, 1) := by decide +kernel
theorem dX6_forecast_58 : decode cX6_forecast 58 = .ok (.iaload, 1) := by decide +kernel
theorem dX6_forecast_59 : decode cX6_forecast 59 = .ok (.iastore, 1) := by decide +kernel
theorem dX6_forecast_60 : decode cX6_forecast 60 = .ok (.iinc 3 1, 3) := by decide +kernel
theorem dX6_forecast_63 : decode cX6_forecast 63 = .ok (.goto (-22), 3) := by decide +kernel
theorem dX6_forecast_66 : decode cX6_forecast 66 = .ok (.aload_n 0, 1) := by decide +kernel
theorem dX6_forecast_67 : decode cX6_forecast 67 = .ok (.iload_n 1, 1) := by decide +kernel
theorem dX6_forecast_68 : decode cX6_forecast 68 = .ok (.invokevirtual 137, 3) := by decide +kernel
theorem dX6_forecast_71 : decode cX6_forecast 71 = .ok (.istore_n 3, 1) := by decide +kernel
theorem dX6_forecast_72 : decode cX6_forecast 72 = .ok (.iload_n 2, 1) := by decide +kernel
theorem dX6_forecast_73 : decode cX6_forecast 73 = .ok (.ifCond .ne 7, 3) := by decide +kernel
theorem dX6_forecast_76 : decode cX6_forecast 76 = .ok (.iload_n 3, 1) := by decide +kernel
theorem dX6_forecast_77 : decode cX6_forecast 77 = .ok (.goto 51, 3) := by decide +kernel
theorem dX6_forecast_80 : decode cX6_forecast 80 = .ok (.iload_n 2, 1) := by decide +kernel
theorem dX6_forecast_81 : decode cX6_forecast 81 = .ok (.iconst 1, 1) := by decide +kernel
theorem dX6_forecast_82 : decode cX6_forecast 82 = .ok (.if_icmp .ne 21, 3) := by decide +kernel
theorem dX6_forecast_85 : decode cX6_forecast 85 = .ok (.aload_n 0, 1) := by decide +kernel
theorem dX6_forecast_86 : decode cX6_forecast 86 = .ok (.getfield 7, 3) := by decide +kernel
theorem dX6_forecast_89 : decode cX6_forecast 89 = .ok (.bipush 9, 2) := by decide +kernel
theorem dX6_forecast_91 : decode cX6_forecast 91 = .ok (.iaload, 1) := by decide +kernel
theorem dX6_forecast_92 : decode cX6_forecast 92 = .ok (.aload_n 0, 1) := by decide +kernel
theorem dX6_forecast_93 : decode cX6_forecast 93 = .ok (.getfield 19, 3) := by decide +kernel
theorem dX6_forecast_96 : decode cX6_forecast 96 = .ok (.bipush 9, 2) := by decide +kernel
theorem dX6_forecast_98 : decode cX6_forecast 98 = .ok (.iaload, 1) := by decide +kernel
theorem dX6_forecast_99 : decode cX6_forecast 99 = .ok (.isub, 1) := by decide +kernel
theorem dX6_forecast_100 : decode cX6_forecast 100 = .ok (.goto 28, 3) := by decide +kernel
theorem dX6_forecast_103 : decode cX6_forecast 103 = .ok (.iload_n 2, 1) := by decide +kernel
theorem dX6_forecast_104 : decode cX6_forecast 104 = .ok (.iconst 2, 1) := by decide +kernel
theorem dX6_forecast_105 : decode cX6_forecast 105 = .ok (.if_icmp .ne 19, 3) := by decide +kernel
theorem dX6_forecast_108 : decode cX6_forecast 108 = .ok (.aload_n 0, 1) := by decide +kernel
theorem dX6_forecast_109 : decode cX6_forecast 109 = .ok (.getfield 7, 3) := by decide +kernel
theorem dX6_forecast_112 : decode cX6_forecast 112 = .ok (.iconst 4, 1) := by decide +kernel
theorem dX6_forecast_113 : decode cX6_forecast 113 = .ok (.iaload, 1) := by decide +kernel
theorem dX6_forecast_114 : decode cX6_forecast 114 = .ok (.aload_n 0, 1) := by decide +kernel
theorem dX6_forecast_115 : decode cX6_forecast 115 = .ok (.getfield 19, 3) := by decide +kernel
theorem dX6_forecast_118 : decode cX6_forecast 118 = .ok (.iconst 4, 1) := by decide +kernel
theorem dX6_forecast_119 : decode cX6_forecast 119 = .ok (.iaload, 1) := by decide +kernel
theorem dX6_forecast_120 : decode cX6_forecast 120 = .ok (.isub, 1) := by decide +kernel
theorem dX6_forecast_121 : decode cX6_forecast 121 = .ok (.goto 7, 3) := by decide +kernel
theorem dX6_forecast_124 : decode cX6_forecast 124 = .ok (.aload_n 0, 1) := by decide +kernel
theorem dX6_forecast_125 : decode cX6_forecast 125 = .ok (.invokevirtual 164, 3) := by decide +kernel
theorem dX6_forecast_128 : decode cX6_forecast 128 = .ok (.istore 4, 2) := by decide +kernel
theorem dX6_forecast_130 : decode cX6_forecast 130 = .ok (.iconst 0, 1) := by decide +kernel
theorem dX6_forecast_131 : decode cX6_forecast 131 = .ok (.istore 5, 2) := by decide +kernel
theorem dX6_forecast_133 : decode cX6_forecast 133 = .ok (.iload 5, 2) := by decide +kernel
theorem dX6_forecast_135 : decode cX6_forecast 135 = .ok (.sipush 236, 3) := by decide +kernel
theorem dX6_forecast_138 : decode cX6_forecast 138 = .ok (.if_icmp .ge 23, 3) := by decide +kernel
theorem dX6_forecast_141 : decode cX6_forecast 141 = .ok (.aload_n 0, 1) := by decide +kernel
theorem dX6_forecast_142 : decode cX6_forecast 142 = .ok (.getfield 7, 3) := by decide +kernel
theorem dX6_forecast_145 : decode cX6_forecast 145 = .ok (.iload 5, 2) := by decide +kernel
theorem dX6_forecast_147 : decode cX6_forecast 147 = .ok (.aload_n 0, 1) := by decide +kernel
theorem dX6_forecast_148 : decode cX6_forecast 148 = .ok (.getfield 19, 3) := by decide +kernel
theorem dX6_forecast_151 : decode cX6_forecast 151 = .ok (.iload 5, 2) := by decide +kernel
theorem dX6_forecast_153 : decode cX6_forecast 153 = .ok (.iaload, 1) := by decide +kernel
theorem dX6_forecast_154 : decode cX6_forecast 154 = .ok (.iastore, 1) := by decide +kernel
theorem dX6_forecast_155 : decode cX6_forecast 155 = .ok (.iinc 5 1, 3) := by decide +kernel
theorem dX6_forecast_158 : decode cX6_forecast 158 = .ok (.goto (-25), 3) := by decide +kernel
theorem dX6_forecast_161 : decode cX6_forecast 161 = .ok (.iload 4, 2) := by decide +kernel
theorem dX6_forecast_163 : decode cX6_forecast 163 = .ok (.ireturn, 1) := by decide +kernel
theorem dX6_inTanks_0 : decode cX6_inTanks 0 = .ok (.iconst 0, 1) := by decide +kernel
theorem dX6_inTanks_1 : decode cX6_inTanks 1 = .ok (.istore_n 1, 1) := by decide +kernel
theorem dX6_inTanks_2 : decode cX6_inTanks 2 = .ok (.iconst 0, 1) := by decide +kernel
theorem dX6_inTanks_3 : decode cX6_inTanks 3 = .ok (.istore_n 2, 1) := by decide +kernel
theorem dX6_inTanks_4 : decode cX6_inTanks 4 = .ok (.iload_n 2, 1) := by decide +kernel
theorem dX6_inTanks_5 : decode cX6_inTanks 5 = .ok (.aload_n 0, 1) := by decide +kernel
theorem dX6_inTanks_6 : decode cX6_inTanks 6 = .ok (.getfield 7, 3) := by decide +kernel
theorem dX6_inTanks_9 : decode cX6_inTanks 9 = .ok (.bipush 6, 2) := by decide +kernel
theorem dX6_inTanks_11 : decode cX6_inTanks 11 = .ok (.iaload, 1) := by decide +kernel
theorem dX6_inTanks_12 : decode cX6_inTanks 12 = .ok (.if_icmp .ge 18, 3) := by decide +kernel
theorem dX6_inTanks_15 : decode cX6_inTanks 15 = .ok (.iload_n 1, 1) := by decide +kernel
theorem dX6_inTanks_16 : decode cX6_inTanks 16 = .ok (.aload_n 0, 1) := by decide +kernel
theorem dX6_inTanks_17 : decode cX6_inTanks 17 = .ok (.iload_n 2, 1) := by decide +kernel
theorem dX6_inTanks_18 : decode cX6_inTanks 18 = .ok (.iconst 4, 1) := by decide +kernel
theorem dX6_inTanks_19 : decode cX6_inTanks 19 = .ok (.invokevirtual 48, 3) := by decide +kernel
theorem dX6_inTanks_22 : decode cX6_inTanks 22 = .ok (.iadd, 1) := by decide +kernel
theorem dX6_inTanks_23 : decode cX6_inTanks 23 = .ok (.istore_n 1, 1) := by decide +kernel
theorem dX6_inTanks_24 : decode cX6_inTanks 24 = .ok (.iinc 2 1, 3) := by decide +kernel
theorem dX6_inTanks_27 : decode cX6_inTanks 27 = .ok (.goto (-23), 3) := by decide +kernel
theorem dX6_inTanks_30 : decode cX6_inTanks 30 = .ok (.iload_n 1, 1) := by decide +kernel
theorem dX6_inTanks_31 : decode cX6_inTanks 31 = .ok (.ireturn, 1) := by decide +kernel
theorem dX6_openSites_0 : decode cX6_openSites 0 = .ok (.iconst 0, 1) := by decide +kernel
theorem dX6_openSites_1 : decode cX6_openSites 1 = .ok (.istore_n 1, 1) := by decide +kernel
theorem dX6_openSites_2 : decode cX6_openSites 2 = .ok (.iconst 0, 1) := by decide +kernel
theorem dX6_openSites_3 : decode cX6_openSites 3 = .ok (.istore_n 2, 1) := by decide +kernel
theorem dX6_openSites_4 : decode cX6_openSites 4 = .ok (.iload_n 2, 1) := by decide +kernel
theorem dX6_openSites_5 : decode cX6_openSites 5 = .ok (.aload_n 0, 1) := by decide +kernel
theorem dX6_openSites_6 : decode cX6_openSites 6 = .ok (.getfield 7, 3) := by decide +kernel
theorem dX6_openSites_9 : decode cX6_openSites 9 = .ok (.bipush 7, 2) := by decide +kernel
theorem dX6_openSites_11 : decode cX6_openSites 11 = .ok (.iaload, 1) := by decide +kernel
theorem dX6_openSites_12 : decode cX6_openSites 12 = .ok (.if_icmp .ge 25, 3) := by decide +kernel
theorem dX6_openSites_15 : decode cX6_openSites 15 = .ok (.iload_n 1, 1) := by decide +kernel
theorem dX6_openSites_16 : decode cX6_openSites 16 = .ok (.aload_n 0, 1) := by decide +kernel
theorem dX6_openSites_17 : decode cX6_openSites 17 = .ok (.iload_n 2, 1) := by decide +kernel
theorem dX6_openSites_18 : decode cX6_openSites 18 = .ok (.invokevirtual 101, 3) := by decide +kernel
theorem dX6_openSites_21 : decode cX6_openSites 21 = .ok (.ifCond .eq 7, 3) := by decide +kernel
theorem dX6_openSites_24 : decode cX6_openSites 24 = .ok (.iconst 1, 1) := by decide +kernel
theorem dX6_openSites_25 : decode cX6_openSites 25 = .ok (.goto 4, 3) := by decide +kernel
theorem dX6_openSites_28 : decode cX6_openSites 28 = .ok (.iconst 0, 1) := by decide +kernel
theorem dX6_openSites_29 : decode cX6_openSites 29 = .ok (.iadd, 1) := by decide +kernel
theorem dX6_openSites_30 : decode cX6_openSites 30 = .ok (.istore_n 1, 1) := by decide +kernel
theorem dX6_openSites_31 : decode cX6_openSites 31 = .ok (.iinc 2 1, 3) := by decide +kernel
theorem dX6_openSites_34 : decode cX6_openSites 34 = .ok (.goto (-30), 3) := by decide +kernel
theorem dX6_openSites_37 : decode cX6_openSites 37 = .ok (.iload_n 1, 1) := by decide +kernel
theorem dX6_openSites_38 : decode cX6_openSites 38 = .ok (.ireturn, 1) := by decide +kernel
theorem dX6_count_0 : decode cX6_count 0 = .ok (.iload_n 1, 1) := by decide +kernel
theorem dX6_count_1 : decode cX6_count 1 = .ok (.tableswitch 201 0 16 #[83, 90, 100, 107, 114, 119, 126, 133, 141, 146, 154, 159, 167, 175, 183, 191, 196], 83) := by decide +kernel
theorem dX6_count_84 : decode cX6_count 84 = .ok (.aload_n 0, 1) := by decide +kernel
theorem dX6_count_85 : decode cX6_count 85 = .ok (.getfield 7, 3) := by decide +kernel
theorem dX6_count_88 : decode cX6_count 88 = .ok (.iconst 0, 1) := by decide +kernel
theorem dX6_count_89 : decode cX6_count 89 = .ok (.iaload, 1) := by decide +kernel
theorem dX6_count_90 : decode cX6_count 90 = .ok (.ireturn, 1) := by decide +kernel
theorem dX6_count_91 : decode cX6_count 91 = .ok (.aload_n 0, 1) := by decide +kernel
theorem dX6_count_92 : decode cX6_count 92 = .ok (.getfield 7, 3) := by decide +kernel
theorem dX6_count_95 : decode cX6_count 95 = .ok (.iconst 1, 1) := by decide +kernel
theorem dX6_count_96 : decode cX6_count 96 = .ok (.iaload, 1) := by decide +kernel
theorem dX6_count_97 : decode cX6_count 97 = .ok (.bipush 100, 2) := by decide +kernel
theorem dX6_count_99 : decode cX6_count 99 = .ok (.iadd, 1) := by decide +kernel
theorem dX6_count_100 : decode cX6_count 100 = .ok (.ireturn, 1) := by decide +kernel
theorem dX6_count_101 : decode cX6_count 101 = .ok (.aload_n 0, 1) := by decide +kernel
theorem dX6_count_102 : decode cX6_count 102 = .ok (.getfield 7, 3) := by decide +kernel
theorem dX6_count_105 : decode cX6_count 105 = .ok (.iconst 2, 1) := by decide +kernel
theorem dX6_count_106 : decode cX6_count 106 = .ok (.iaload, 1) := by decide +kernel
theorem dX6_count_107 : decode cX6_count 107 = .ok (.ireturn, 1) := by decide +kernel
theorem dX6_count_108 : decode cX6_count 108 = .ok (.aload_n 0, 1) := by decide +kernel
theorem dX6_count_109 : decode cX6_count 109 = .ok (.getfield 7, 3) := by decide +kernel
theorem dX6_count_112 : decode cX6_count 112 = .ok (.iconst 3, 1) := by decide +kernel
theorem dX6_count_113 : decode cX6_count 113 = .ok (.iaload, 1) := by decide +kernel
theorem dX6_count_114 : decode cX6_count 114 = .ok (.ireturn, 1) := by decide +kernel
theorem dX6_count_115 : decode cX6_count 115 = .ok (.aload_n 0, 1) := by decide +kernel
theorem dX6_count_116 : decode cX6_count 116 = .ok (.invokevirtual 167, 3) := by decide +kernel
theorem dX6_count_119 : decode cX6_count 119 = .ok (.ireturn, 1) := by decide +kernel
theorem dX6_count_120 : decode cX6_count 120 = .ok (.aload_n 0, 1) := by decide +kernel
theorem dX6_count_121 : decode cX6_count 121 = .ok (.getfield 7, 3) := by decide +kernel
theorem dX6_count_124 : decode cX6_count 124 = .ok (.iconst 4, 1) := by decide +kernel
theorem dX6_count_125 : decode cX6_count 125 = .ok (.iaload, 1) := by decide +kernel
theorem dX6_count_126 : decode cX6_count 126 = .ok (.ireturn, 1) := by decide +kernel
theorem dX6_count_127 : decode cX6_count 127 = .ok (.aload_n 0, 1) := by decide +kernel
theorem dX6_count_128 : decode cX6_count 128 = .ok (.getfield 7, 3) := by decide +kernel
theorem dX6_count_131 : decode cX6_count 131 = .ok (.iconst 5, 1) := by decide +kernel
theorem dX6_count_132 : decode cX6_count 132 = .ok (.iaload, 1) := by decide +kernel
theorem dX6_count_133 : decode cX6_count 133 = .ok (.ireturn, 1) := by decide +kernel
theorem dX6_count_134 : decode cX6_count 134 = .ok (.aload_n 0, 1) := by decide +kernel
theorem dX6_count_135 : decode cX6_count 135 = .ok (.getfield 7, 3) := by decide +kernel
theorem dX6_count_138 : decode cX6_count 138 = .ok (.bipush 6, 2) := by decide +kernel
theorem dX6_count_140 : decode cX6_count 140 = .ok (.iaload, 1) := by decide +kernel
theorem dX6_count_141 : decode cX6_count 141 = .ok (.ireturn, 1) := by decide +kernel
theorem dX6_count_142 : decode cX6_count 142 = .ok (.aload_n 0, 1) := by decide +kernel
theorem dX6_count_143 : decode cX6_count 143 = .ok (.invokevirtual 93, 3) := by decide +kernel
theorem dX6_count_146 : decode cX6_count 146 = .ok (.ireturn, 1) := by decide +kernel
theorem dX6_count_147 : decode cX6_count 147 = .ok (.aload_n 0, 1) := by decide +kernel
theorem dX6_count_148 : decode cX6_count 148 = .ok (.getfield 7, 3) := by decide +kernel
theorem dX6_count_151 : decode cX6_count 151 = .ok (.bipush 7, 2) := by decide +kernel
theorem dX6_count_153 : decode cX6_count 153 = .ok (.iaload, 1) := by decide +kernel
theorem dX6_count_154 : decode cX6_count 154 = .ok (.ireturn, 1) := by decide +kernel
theorem dX6_count_155 : decode cX6_count 155 = .ok (.aload_n 0, 1) := by decide +kernel
theorem dX6_count_156 : decode cX6_count 156 = .ok (.invokevirtual 170, 3) := by decide +kernel
theorem dX6_count_159 : decode cX6_count 159 = .ok (.ireturn, 1) := by decide +kernel
theorem dX6_count_160 : decode cX6_count 160 = .ok (.aload_n 0, 1) := by decide +kernel
theorem dX6_count_161 : decode cX6_count 161 = .ok (.getfield 7, 3) := by decide +kernel
theorem dX6_count_164 : decode cX6_count 164 = .ok (.bipush 8, 2) := by decide +kernel
theorem dX6_count_166 : decode cX6_count 166 = .ok (.iaload, 1) := by decide +kernel
theorem dX6_count_167 : decode cX6_count 167 = .ok (.ireturn, 1) := by decide +kernel
theorem dX6_count_168 : decode cX6_count 168 = .ok (.aload_n 0, 1) := by decide +kernel
theorem dX6_count_169 : decode cX6_count 169 = .ok (.getfield 7, 3) := by decide +kernel
theorem dX6_count_172 : decode cX6_count 172 = .ok (.bipush 9, 2) := by decide +kernel
theorem dX6_count_174 : decode cX6_count 174 = .ok (.iaload, 1) := by decide +kernel
theorem dX6_count_175 : decode cX6_count 175 = .ok (.ireturn, 1) := by decide +kernel
theorem dX6_count_176 : decode cX6_count 176 = .ok (.aload_n 0, 1) := by decide +kernel
theorem dX6_count_177 : decode cX6_count 177 = .ok (.getfield 7, 3) := by decide +kernel
theorem dX6_count_180 : decode cX6_count 180 = .ok (.bipush 10, 2) := by decide +kernel
theorem dX6_count_182 : decode cX6_count 182 = .ok (.iaload, 1) := by decide +kernel
theorem dX6_count_183 : decode cX6_count 183 = .ok (.ireturn, 1) := by decide +kernel
theorem dX6_count_184 : decode cX6_count 184 = .ok (.aload_n 0, 1) := by decide +kernel
theorem dX6_count_185 : decode cX6_count 185 = .ok (.getfield 7, 3) := by decide +kernel
theorem dX6_count_188 : decode cX6_count 188 = .ok (.bipush 11, 2) := by decide +kernel
theorem dX6_count_190 : decode cX6_count 190 = .ok (.iaload, 1) := by decide +kernel
theorem dX6_count_191 : decode cX6_count 191 = .ok (.ireturn, 1) := by decide +kernel
theorem dX6_count_192 : decode cX6_count 192 = .ok (.aload_n 0, 1) := by decide +kernel
theorem dX6_count_193 : decode cX6_count 193 = .ok (.getfield 32, 3) := by decide +kernel
theorem dX6_count_196 : decode cX6_count 196 = .ok (.ireturn, 1) := by decide +kernel
theorem dX6_count_197 : decode cX6_count 197 = .ok (.aload_n 0, 1) := by decide +kernel
theorem dX6_count_198 : decode cX6_count 198 = .ok (.getfield 140, 3) := by decide +kernel
theorem dX6_count_201 : decode cX6_count 201 = .ok (.ireturn, 1) := by decide +kernel
theorem dX6_count_202 : decode cX6_count 202 = .ok (.bipush (-2), 2) := by decide +kernel
theorem dX6_count_204 : decode cX6_count 204 = .ok (.ireturn, 1) := by decide +kernel
theorem dL_law_0 : decode cL_law 0 = .ok (.new 7, 3) := by decide +kernel
theorem dL_law_3 : decode cL_law 3 = .ok (.dup, 1) := by decide +kernel
theorem dL_law_4 : decode cL_law 4 = .ok (.invokespecial 9, 3) := by decide +kernel
theorem dL_law_7 : decode cL_law 7 = .ok (.astore_n 1, 1) := by decide +kernel
theorem dL_law_8 : decode cL_law 8 = .ok (.new 10, 3) := by decide +kernel
theorem dL_law_11 : decode cL_law 11 = .ok (.dup, 1) := by decide +kernel
theorem dL_law_12 : decode cL_law 12 = .ok (.invokespecial 12, 3) := by decide +kernel
theorem dL_law_15 : decode cL_law 15 = .ok (.astore_n 2, 1) := by decide +kernel
theorem dL_law_16 : decode cL_law 16 = .ok (.iconst 0, 1) := by decide +kernel
theorem dL_law_17 : decode cL_law 17 = .ok (.istore_n 3, 1) := by decide +kernel
theorem dL_law_18 : decode cL_law 18 = .ok (.iload_n 3, 1) := by decide +kernel
theorem dL_law_19 : decode cL_law 19 = .ok (.aload_n 0, 1) := by decide +kernel
theorem dL_law_20 : decode cL_law 20 = .ok (.arraylength, 1) := by decide +kernel
theorem dL_law_21 : decode cL_law 21 = .ok (.iconst 5, 1) := by decide +kernel
theorem dL_law_22 : decode cL_law 22 = .ok (.isub, 1) := by decide +kernel
theorem dL_law_23 : decode cL_law 23 = .ok (.if_icmp .gt 728, 3) := by decide +kernel
theorem dL_law_26 : decode cL_law 26 = .ok (.aload_n 0, 1) := by decide +kernel
theorem dL_law_27 : decode cL_law 27 = .ok (.iload_n 3, 1) := by decide +kernel
theorem dL_law_28 : decode cL_law 28 = .ok (.iaload, 1) := by decide +kernel
theorem dL_law_29 : decode cL_law 29 = .ok (.bipush 31, 2) := by decide +kernel
theorem dL_law_31 : decode cL_law 31 = .ok (.iand, 1) := by decide +kernel
theorem dL_law_32 : decode cL_law 32 = .ok (.tableswitch 713 0 24 #[116, 139, 162, 185, 238, 261, 314, 347, 370, 383, 396, 409, 432, 457, 470, 483, 496, 509, 522, 555, 588, 611, 634, 657, 690], 116) := by decide +kernel
theorem dL_law_148 : decode cL_law 148 = .ok (.aload_n 1, 1) := by decide +kernel
theorem dL_law_149 : decode cL_law 149 = .ok (.aload_n 0, 1) := by decide +kernel
theorem dL_law_150 : decode cL_law 150 = .ok (.iload_n 3, 1) := by decide +kernel
theorem dL_law_151 : decode cL_law 151 = .ok (.iconst 1, 1) := by decide +kernel
theorem dL_law_152 : decode cL_law 152 = .ok (.iadd, 1) := by decide +kernel
theorem dL_law_153 : decode cL_law 153 = .ok (.iaload, 1) := by decide +kernel
theorem dL_law_154 : decode cL_law 154 = .ok (.invokevirtual 13, 3) := by decide +kernel
theorem dL_law_157 : decode cL_law 157 = .ok (.aload_n 2, 1) := by decide +kernel
theorem dL_law_158 : decode cL_law 158 = .ok (.aload_n 0, 1) := by decide +kernel
theorem dL_law_159 : decode cL_law 159 = .ok (.iload_n 3, 1) := by decide +kernel
theorem dL_law_160 : decode cL_law 160 = .ok (.iconst 1, 1) := by decide +kernel
theorem dL_law_161 : decode cL_law 161 = .ok (.iadd, 1) := by decide +kernel
theorem dL_law_162 : decode cL_law 162 = .ok (.iaload, 1) := by decide +kernel
theorem dL_law_163 : decode cL_law 163 = .ok (.invokevirtual 17, 3) := by decide +kernel
theorem dL_law_166 : decode cL_law 166 = .ok (.if_icmp .eq 579, 3) := by decide +kernel
theorem dL_law_169 : decode cL_law 169 = .ok (.iconst 0, 1) := by decide +kernel
theorem dL_law_170 : decode cL_law 170 = .ok (.ireturn, 1) := by decide +kernel
theorem dL_law_171 : decode cL_law 171 = .ok (.aload_n 1, 1) := by decide +kernel
theorem dL_law_172 : decode cL_law 172 = .ok (.aload_n 0, 1) := by decide +kernel
theorem dL_law_173 : decode cL_law 173 = .ok (.iload_n 3, 1) := by decide +kernel
theorem dL_law_174 : decode cL_law 174 = .ok (.iconst 1, 1) := by decide +kernel
theorem dL_law_175 : decode cL_law 175 = .ok (.iadd, 1) := by decide +kernel
theorem dL_law_176 : decode cL_law 176 = .ok (.iaload, 1) := by decide +kernel
theorem dL_law_177 : decode cL_law 177 = .ok (.invokevirtual 18, 3) := by decide +kernel
theorem dL_law_180 : decode cL_law 180 = .ok (.aload_n 2, 1) := by decide +kernel
theorem dL_law_181 : decode cL_law 181 = .ok (.aload_n 0, 1) := by decide +kernel
theorem dL_law_182 : decode cL_law 182 = .ok (.iload_n 3, 1) := by decide +kernel
theorem dL_law_183 : decode cL_law 183 = .ok (.iconst 1, 1) := by decide +kernel
theorem dL_law_184 : decode cL_law 184 = .ok (.iadd, 1) := by decide +kernel
theorem dL_law_185 : decode cL_law 185 = .ok (.iaload, 1) := by decide +kernel
theorem dL_law_186 : decode cL_law 186 = .ok (.invokevirtual 21, 3) := by decide +kernel
theorem dL_law_189 : decode cL_law 189 = .ok (.if_icmp .eq 556, 3) := by decide +kernel
theorem dL_law_192 : decode cL_law 192 = .ok (.iconst 0, 1) := by decide +kernel
theorem dL_law_193 : decode cL_law 193 = .ok (.ireturn, 1) := by decide +kernel
theorem dL_law_194 : decode cL_law 194 = .ok (.aload_n 1, 1) := by decide +kernel
theorem dL_law_195 : decode cL_law 195 = .ok (.aload_n 0, 1) := by decide +kernel
theorem dL_law_196 : decode cL_law 196 = .ok (.iload_n 3, 1) := by decide +kernel
theorem dL_law_197 : decode cL_law 197 = .ok (.iconst 1, 1) := by decide +kernel
theorem dL_law_198 : decode cL_law 198 = .ok (.iadd, 1) := by decide +kernel
theorem dL_law_199 : decode cL_law 199 = .ok (.iaload, 1) := by decide +kernel
theorem dL_law_200 : decode cL_law 200 = .ok (.invokevirtual 22, 3) := by decide +kernel
theorem dL_law_203 : decode cL_law 203 = .ok (.aload_n 2, 1) := by decide +kernel
theorem dL_law_204 : decode cL_law 204 = .ok (.aload_n 0, 1) := by decide +kernel
theorem dL_law_205 : decode cL_law 205 = .ok (.iload_n 3, 1) := by decide +kernel
theorem dL_law_206 : decode cL_law 206 = .ok (.iconst 1, 1) := by decide +kernel
theorem dL_law_207 : decode cL_law 207 = .ok (.iadd, 1) := by decide +kernel
theorem dL_law_208 : decode cL_law 208 = .ok (.iaload, 1) := by decide +kernel
theorem dL_law_209 : decode cL_law 209 = .ok (.invokevirtual 25, 3) := by decide +kernel
theorem dL_law_212 : decode cL_law 212 = .ok (.if_icmp .eq 533, 3) := by decide +kernel
theorem dL_law_215 : decode cL_law 215 = .ok (.iconst 0, 1) := by decide +kernel
theorem dL_law_216 : decode cL_law 216 = .ok (.ireturn, 1) := by decide +kernel
theorem dL_law_217 : decode cL_law 217 = .ok (.aload_n 1, 1) := by decide +kernel
theorem dL_law_218 : decode cL_law 218 = .ok (.aload_n 0, 1) := by decide +kernel
theorem dL_law_219 : decode cL_law 219 = .ok (.iload_n 3, 1) := by decide +kernel
theorem dL_law_220 : decode cL_law 220 = .ok (.iconst 1, 1) := by decide +kernel
theorem dL_law_221 : decode cL_law 221 = .ok (.iadd, 1) := by decide +kernel
theorem dL_law_222 : decode cL_law 222 = .ok (.iaload, 1) := by decide +kernel
theorem dL_law_223 : decode cL_law 223 = .ok (.aload_n 0, 1) := by decide +kernel
theorem dL_law_224 : decode cL_law 224 = .ok (.iload_n 3, 1) := by decide +kernel
theorem dL_law_225 : decode cL_law 225 = .ok (.iconst 2, 1) := by decide +kernel
theorem dL_law_226 : decode cL_law 226 = .ok (.iadd, 1) := by decide +kernel
theorem dL_law_227 : decode cL_law 227 = .ok (.iaload, 1) := by decide +kernel
theorem dL_law_228 : decode cL_law 228 = .ok (.aload_n 0, 1) := by decide +kernel
theorem dL_law_229 : decode cL_law 229 = .ok (.iload_n 3, 1) := by decide +kernel
theorem dL_law_230 : decode cL_law 230 = .ok (.iconst 3, 1) := by decide +kernel
theorem dL_law_231 : decode cL_law 231 = .ok (.iadd, 1) := by decide +kernel
theorem dL_law_232 : decode cL_law 232 = .ok (.iaload, 1) := by decide +kernel
theorem dL_law_233 : decode cL_law 233 = .ok (.aload_n 0, 1) := by decide +kernel
theorem dL_law_234 : decode cL_law 234 = .ok (.iload_n 3, 1) := by decide +kernel
theorem dL_law_235 : decode cL_law 235 = .ok (.iconst 4, 1) := by decide +kernel
theorem dL_law_236 : decode cL_law 236 = .ok (.iadd, 1) := by decide +kernel
theorem dL_law_237 : decode cL_law 237 = .ok (.iaload, 1) := by decide +kernel
theorem dL_law_238 : decode cL_law 238 = .ok (.invokevirtual 26, 3) := by decide +kernel
theorem dL_law_241 : decode cL_law 241 = .ok (.aload_n 2, 1) := by decide +kernel
theorem dL_law_242 : decode cL_law 242 = .ok (.aload_n 0, 1) := by decide +kernel
theorem dL_law_243 : decode cL_law 243 = .ok (.iload_n 3, 1) := by decide +kernel
theorem dL_law_244 : decode cL_law 244 = .ok (.iconst 1, 1) := by decide +kernel
theorem dL_law_245 : decode cL_law 245 = .ok (.iadd, 1) := by decide +kernel
theorem dL_law_246 : decode cL_law 246 = .ok (.iaload, 1) := by decide +kernel
theorem dL_law_247 : decode cL_law 247 = .ok (.aload_n 0, 1) := by decide +kernel
theorem dL_law_248 : decode cL_law 248 = .ok (.iload_n 3, 1) := by decide +kernel
theorem dL_law_249 : decode cL_law 249 = .ok (.iconst 2, 1) := by decide +kernel
theorem dL_law_250 : decode cL_law 250 = .ok (.iadd, 1) := by decide +kernel
theorem dL_law_251 : decode cL_law 251 = .ok (.iaload, 1) := by decide +kernel
theorem dL_law_252 : decode cL_law 252 = .ok (.aload_n 0, 1) := by decide +kernel
theorem dL_law_253 : decode cL_law 253 = .ok (.iload_n 3, 1) := by decide +kernel
theorem dL_law_254 : decode cL_law 254 = .ok (.iconst 3, 1) := by decide +kernel
theorem dL_law_255 : decode cL_law 255 = .ok (.iadd, 1) := by decide +kernel
theorem dL_law_256 : decode cL_law 256 = .ok (.iaload, 1) := by decide +kernel
theorem dL_law_257 : decode cL_law 257 = .ok (.aload_n 0, 1) := by decide +kernel
theorem dL_law_258 : decode cL_law 258 = .ok (.iload_n 3, 1) := by decide +kernel
theorem dL_law_259 : decode cL_law 259 = .ok (.iconst 4, 1) := by decide +kernel
theorem dL_law_260 : decode cL_law 260 = .ok (.iadd, 1) := by decide +kernel
theorem dL_law_261 : decode cL_law 261 = .ok (.iaload, 1) := by decide +kernel
theorem dL_law_262 : decode cL_law 262 = .ok (.invokevirtual 30, 3) := by decide +kernel
theorem dL_law_265 : decode cL_law 265 = .ok (.if_icmp .eq 480, 3) := by decide +kernel
theorem dL_law_268 : decode cL_law 268 = .ok (.iconst 0, 1) := by decide +kernel
theorem dL_law_269 : decode cL_law 269 = .ok (.ireturn, 1) := by decide +kernel
theorem dL_law_270 : decode cL_law 270 = .ok (.aload_n 1, 1) := by decide +kernel
theorem dL_law_271 : decode cL_law 271 = .ok (.aload_n 0, 1) := by decide +kernel
theorem dL_law_272 : decode cL_law 272 = .ok (.iload_n 3, 1) := by decide +kernel
theorem dL_law_273 : decode cL_law 273 = .ok (.iconst 1, 1) := by decide +kernel
theorem dL_law_274 : decode cL_law 274 = .ok (.iadd, 1) := by decide +kernel
theorem dL_law_275 : decode cL_law 275 = .ok (.iaload, 1) := by decide +kernel
theorem dL_law_276 : decode cL_law 276 = .ok (.invokevirtual 31, 3) := by decide +kernel
theorem dL_law_279 : decode cL_law 279 = .ok (.aload_n 2, 1) := by decide +kernel
theorem dL_law_280 : decode cL_law 280 = .ok (.aload_n 0, 1) := by decide +kernel
theorem dL_law_281 : decode cL_law 281 = .ok (.iload_n 3, 1) := by decide +kernel
theorem dL_law_282 : decode cL_law 282 = .ok (.iconst 1, 1) := by decide +kernel
theorem dL_law_283 : decode cL_law 283 = .ok (.iadd, 1) := by decide +kernel
theorem dL_law_284 : decode cL_law 284 = .ok (.iaload, 1) := by decide +kernel
theorem dL_law_285 : decode cL_law 285 = .ok (.invokevirtual 34, 3) := by decide +kernel
theorem dL_law_288 : decode cL_law 288 = .ok (.if_icmp .eq 457, 3) := by decide +kernel
theorem dL_law_291 : decode cL_law 291 = .ok (.iconst 0, 1) := by decide +kernel
theorem dL_law_292 : decode cL_law 292 = .ok (.ireturn, 1) := by decide +kernel
theorem dL_law_293 : decode cL_law 293 = .ok (.aload_n 1, 1) := by decide +kernel
theorem dL_law_294 : decode cL_law 294 = .ok (.aload_n 0, 1) := by decide +kernel
theorem dL_law_295 : decode cL_law 295 = .ok (.iload_n 3, 1) := by decide +kernel
theorem dL_law_296 : decode cL_law 296 = .ok (.iconst 1, 1) := by decide +kernel
theorem dL_law_297 : decode cL_law 297 = .ok (.iadd, 1) := by decide +kernel
theorem dL_law_298 : decode cL_law 298 = .ok (.iaload, 1) := by decide +kernel
theorem dL_law_299 : decode cL_law 299 = .ok (.aload_n 0, 1) := by decide +kernel
theorem dL_law_300 : decode cL_law 300 = .ok (.iload_n 3, 1) := by decide +kernel
theorem dL_law_301 : decode cL_law 301 = .ok (.iconst 2, 1) := by decide +kernel
theorem dL_law_302 : decode cL_law 302 = .ok (.iadd, 1) := by decide +kernel
theorem dL_law_303 : decode cL_law 303 = .ok (.iaload, 1) := by decide +kernel
theorem dL_law_304 : decode cL_law 304 = .ok (.aload_n 0, 1) := by decide +kernel
theorem dL_law_305 : decode cL_law 305 = .ok (.iload_n 3, 1) := by decide +kernel
theorem dL_law_306 : decode cL_law 306 = .ok (.iconst 3, 1) := by decide +kernel
theorem dL_law_307 : decode cL_law 307 = .ok (.iadd, 1) := by decide +kernel
theorem dL_law_308 : decode cL_law 308 = .ok (.iaload, 1) := by decide +kernel
theorem dL_law_309 : decode cL_law 309 = .ok (.aload_n 0, 1) := by decide +kernel
theorem dL_law_310 : decode cL_law 310 = .ok (.iload_n 3, 1) := by decide +kernel
theorem dL_law_311 : decode cL_law 311 = .ok (.iconst 4, 1) := by decide +kernel
theorem dL_law_312 : decode cL_law 312 = .ok (.iadd, 1) := by decide +kernel
theorem dL_law_313 : decode cL_law 313 = .ok (.iaload, 1) := by decide +kernel
theorem dL_law_314 : decode cL_law 314 = .ok (.invokevirtual 35, 3) := by decide +kernel
theorem dL_law_317 : decode cL_law 317 = .ok (.aload_n 2, 1) := by decide +kernel
theorem dL_law_318 : decode cL_law 318 = .ok (.aload_n 0, 1) := by decide +kernel
theorem dL_law_319 : decode cL_law 319 = .ok (.iload_n 3, 1) := by decide +kernel
theorem dL_law_320 : decode cL_law 320 = .ok (.iconst 1, 1) := by decide +kernel
theorem dL_law_321 : decode cL_law 321 = .ok (.iadd, 1) := by decide +kernel
theorem dL_law_322 : decode cL_law 322 = .ok (.iaload, 1) := by decide +kernel
theorem dL_law_323 : decode cL_law 323 = .ok (.aload_n 0, 1) := by decide +kernel
theorem dL_law_324 : decode cL_law 324 = .ok (.iload_n 3, 1) := by decide +kernel
theorem dL_law_325 : decode cL_law 325 = .ok (.iconst 2, 1) := by decide +kernel
theorem dL_law_326 : decode cL_law 326 = .ok (.iadd, 1) := by decide +kernel
theorem dL_law_327 : decode cL_law 327 = .ok (.iaload, 1) := by decide +kernel
theorem dL_law_328 : decode cL_law 328 = .ok (.aload_n 0, 1) := by decide +kernel
theorem dL_law_329 : decode cL_law 329 = .ok (.iload_n 3, 1) := by decide +kernel
theorem dL_law_330 : decode cL_law 330 = .ok (.iconst 3, 1) := by decide +kernel
theorem dL_law_331 : decode cL_law 331 = .ok (.iadd, 1) := by decide +kernel
theorem dL_law_332 : decode cL_law 332 = .ok (.iaload, 1) := by decide +kernel
theorem dL_law_333 : decode cL_law 333 = .ok (.aload_n 0, 1) := by decide +kernel
theorem dL_law_334 : decode cL_law 334 = .ok (.iload_n 3, 1) := by decide +kernel
theorem dL_law_335 : decode cL_law 335 = .ok (.iconst 4, 1) := by decide +kernel
theorem dL_law_336 : decode cL_law 336 = .ok (.iadd, 1) := by decide +kernel
theorem dL_law_337 : decode cL_law 337 = .ok (.iaload, 1) := by decide +kernel
theorem dL_law_338 : decode cL_law 338 = .ok (.invokevirtual 38, 3) := by decide +kernel
theorem dL_law_341 : decode cL_law 341 = .ok (.if_icmp .eq 404, 3) := by decide +kernel
theorem dL_law_344 : decode cL_law 344 = .ok (.iconst 0, 1) := by decide +kernel
theorem dL_law_345 : decode cL_law 345 = .ok (.ireturn, 1) := by decide +kernel
theorem dL_law_346 : decode cL_law 346 = .ok (.aload_n 1, 1) := by decide +kernel
theorem dL_law_347 : decode cL_law 347 = .ok (.aload_n 0, 1) := by decide +kernel
theorem dL_law_348 : decode cL_law 348 = .ok (.iload_n 3, 1) := by decide +kernel
theorem dL_law_349 : decode cL_law 349 = .ok (.iconst 1, 1) := by decide +kernel
theorem dL_law_350 : decode cL_law 350 = .ok (.iadd, 1) := by decide +kernel
theorem dL_law_351 : decode cL_law 351 = .ok (.iaload, 1) := by decide +kernel
theorem dL_law_352 : decode cL_law 352 = .ok (.aload_n 0, 1) := by decide +kernel
theorem dL_law_353 : decode cL_law 353 = .ok (.iload_n 3, 1) := by decide +kernel
theorem dL_law_354 : decode cL_law 354 = .ok (.iconst 2, 1) := by decide +kernel
theorem dL_law_355 : decode cL_law 355 = .ok (.iadd, 1) := by decide +kernel
theorem dL_law_356 : decode cL_law 356 = .ok (.iaload, 1) := by decide +kernel
theorem dL_law_357 : decode cL_law 357 = .ok (.invokevirtual 39, 3) := by decide +kernel
theorem dL_law_360 : decode cL_law 360 = .ok (.aload_n 2, 1) := by decide +kernel
theorem dL_law_361 : decode cL_law 361 = .ok (.aload_n 0, 1) := by decide +kernel
theorem dL_law_362 : decode cL_law 362 = .ok (.iload_n 3, 1) := by decide +kernel
theorem dL_law_363 : decode cL_law 363 = .ok (.iconst 1, 1) := by decide +kernel
theorem dL_law_364 : decode cL_law 364 = .ok (.iadd, 1) := by decide +kernel
theorem dL_law_365 : decode cL_law 365 = .ok (.iaload, 1) := by decide +kernel
theorem dL_law_366 : decode cL_law 366 = .ok (.aload_n 0, 1) := by decide +kernel
theorem dL_law_367 : decode cL_law 367 = .ok (.iload_n 3, 1) := by decide +kernel
theorem dL_law_368 : decode cL_law 368 = .ok (.iconst 2, 1) := by decide +kernel
theorem dL_law_369 : decode cL_law 369 = .ok (.iadd, 1) := by decide +kernel
theorem dL_law_370 : decode cL_law 370 = .ok (.iaload, 1) := by decide +kernel
theorem dL_law_371 : decode cL_law 371 = .ok (.invokevirtual 43, 3) := by decide +kernel
theorem dL_law_374 : decode cL_law 374 = .ok (.if_icmp .eq 371, 3) := by decide +kernel
theorem dL_law_377 : decode cL_law 377 = .ok (.iconst 0, 1) := by decide +kernel
theorem dL_law_378 : decode cL_law 378 = .ok (.ireturn, 1) := by decide +kernel
theorem dL_law_379 : decode cL_law 379 = .ok (.aload_n 1, 1) := by decide +kernel
theorem dL_law_380 : decode cL_law 380 = .ok (.aload_n 0, 1) := by decide +kernel
theorem dL_law_381 : decode cL_law 381 = .ok (.iload_n 3, 1) := by decide +kernel
theorem dL_law_382 : decode cL_law 382 = .ok (.iconst 1, 1) := by decide +kernel
theorem dL_law_383 : decode cL_law 383 = .ok (.iadd, 1) := by decide +kernel
theorem dL_law_384 : decode cL_law 384 = .ok (.iaload, 1) := by decide +kernel
theorem dL_law_385 : decode cL_law 385 = .ok (.invokevirtual 44, 3) := by decide +kernel
theorem dL_law_388 : decode cL_law 388 = .ok (.aload_n 2, 1) := by decide +kernel
theorem dL_law_389 : decode cL_law 389 = .ok (.aload_n 0, 1) := by decide +kernel
theorem dL_law_390 : decode cL_law 390 = .ok (.iload_n 3, 1) := by decide +kernel
theorem dL_law_391 : decode cL_law 391 = .ok (.iconst 1, 1) := by decide +kernel
theorem dL_law_392 : decode cL_law 392 = .ok (.iadd, 1) := by decide +kernel
theorem dL_law_393 : decode cL_law 393 = .ok (.iaload, 1) := by decide +kernel
theorem dL_law_394 : decode cL_law 394 = .ok (.invokevirtual 47, 3) := by decide +kernel
theorem dL_law_397 : decode cL_law 397 = .ok (.if_icmp .eq 348, 3) := by decide +kernel
theorem dL_law_400 : decode cL_law 400 = .ok (.iconst 0, 1) := by decide +kernel
theorem dL_law_401 : decode cL_law 401 = .ok (.ireturn, 1) := by decide +kernel
theorem dL_law_402 : decode cL_law 402 = .ok (.aload_n 1, 1) := by decide +kernel
theorem dL_law_403 : decode cL_law 403 = .ok (.invokevirtual 48, 3) := by decide +kernel
theorem dL_law_406 : decode cL_law 406 = .ok (.aload_n 2, 1) := by decide +kernel
theorem dL_law_407 : decode cL_law 407 = .ok (.invokevirtual 52, 3) := by decide +kernel
theorem dL_law_410 : decode cL_law 410 = .ok (.if_icmp .eq 335, 3) := by decide +kernel
theorem dL_law_413 : decode cL_law 413 = .ok (.iconst 0, 1) := by decide +kernel
theorem dL_law_414 : decode cL_law 414 = .ok (.ireturn, 1) := by decide +kernel
theorem dL_law_415 : decode cL_law 415 = .ok (.aload_n 1, 1) := by decide +kernel
theorem dL_law_416 : decode cL_law 416 = .ok (.invokevirtual 53, 3) := by decide +kernel
theorem dL_law_419 : decode cL_law 419 = .ok (.aload_n 2, 1) := by decide +kernel
theorem dL_law_420 : decode cL_law 420 = .ok (.invokevirtual 56, 3) := by decide +kernel
theorem dL_law_423 : decode cL_law 423 = .ok (.if_icmp .eq 322, 3) := by decide +kernel
theorem dL_law_426 : decode cL_law 426 = .ok (.iconst 0, 1) := by decide +kernel
theorem dL_law_427 : decode cL_law 427 = .ok (.ireturn, 1) := by decide +kernel
theorem dL_law_428 : decode cL_law 428 = .ok (.aload_n 1, 1) := by decide +kernel
theorem dL_law_429 : decode cL_law 429 = .ok (.invokevirtual 57, 3) := by decide +kernel
theorem dL_law_432 : decode cL_law 432 = .ok (.aload_n 2, 1) := by decide +kernel
theorem dL_law_433 : decode cL_law 433 = .ok (.invokevirtual 60, 3) := by decide +kernel
theorem dL_law_436 : decode cL_law 436 = .ok (.if_icmp .eq 309, 3) := by decide +kernel
theorem dL_law_439 : decode cL_law 439 = .ok (.iconst 0, 1) := by decide +kernel
theorem dL_law_440 : decode cL_law 440 = .ok (.ireturn, 1) := by decide +kernel
theorem dL_law_441 : decode cL_law 441 = .ok (.aload_n 1, 1) := by decide +kernel
theorem dL_law_442 : decode cL_law 442 = .ok (.aload_n 0, 1) := by decide +kernel
theorem dL_law_443 : decode cL_law 443 = .ok (.iload_n 3, 1) := by decide +kernel
theorem dL_law_444 : decode cL_law 444 = .ok (.iconst 1, 1) := by decide +kernel
theorem dL_law_445 : decode cL_law 445 = .ok (.iadd, 1) := by decide +kernel
theorem dL_law_446 : decode cL_law 446 = .ok (.iaload, 1) := by decide +kernel
theorem dL_law_447 : decode cL_law 447 = .ok (.invokevirtual 61, 3) := by decide +kernel
theorem dL_law_450 : decode cL_law 450 = .ok (.aload_n 2, 1) := by decide +kernel
theorem dL_law_451 : decode cL_law 451 = .ok (.aload_n 0, 1) := by decide +kernel
theorem dL_law_452 : decode cL_law 452 = .ok (.iload_n 3, 1) := by decide +kernel
theorem dL_law_453 : decode cL_law 453 = .ok (.iconst 1, 1) := by decide +kernel
theorem dL_law_454 : decode cL_law 454 = .ok (.iadd, 1) := by decide +kernel
theorem dL_law_455 : decode cL_law 455 = .ok (.iaload, 1) := by decide +kernel
theorem dL_law_456 : decode cL_law 456 = .ok (.invokevirtual 64, 3) := by decide +kernel
theorem dL_law_459 : decode cL_law 459 = .ok (.if_icmp .eq 286, 3) := by decide +kernel
theorem dL_law_462 : decode cL_law 462 = .ok (.iconst 0, 1) := by decide +kernel
theorem dL_law_463 : decode cL_law 463 = .ok (.ireturn, 1) := by decide +kernel
theorem dL_law_464 : decode cL_law 464 = .ok (.aload_n 1, 1) := by decide +kernel
theorem dL_law_465 : decode cL_law 465 = .ok (.aload_n 0, 1) := by decide +kernel
theorem dL_law_466 : decode cL_law 466 = .ok (.iload_n 3, 1) := by decide +kernel
theorem dL_law_467 : decode cL_law 467 = .ok (.iconst 1, 1) := by decide +kernel
theorem dL_law_468 : decode cL_law 468 = .ok (.iadd, 1) := by decide +kernel
theorem dL_law_469 : decode cL_law 469 = .ok (.iaload, 1) := by decide +kernel
theorem dL_law_470 : decode cL_law 470 = .ok (.i2c, 1) := by decide +kernel
theorem dL_law_471 : decode cL_law 471 = .ok (.invokevirtual 65, 3) := by decide +kernel
theorem dL_law_474 : decode cL_law 474 = .ok (.aload_n 2, 1) := by decide +kernel
theorem dL_law_475 : decode cL_law 475 = .ok (.aload_n 0, 1) := by decide +kernel
theorem dL_law_476 : decode cL_law 476 = .ok (.iload_n 3, 1) := by decide +kernel
theorem dL_law_477 : decode cL_law 477 = .ok (.iconst 1, 1) := by decide +kernel
theorem dL_law_478 : decode cL_law 478 = .ok (.iadd, 1) := by decide +kernel
theorem dL_law_479 : decode cL_law 479 = .ok (.iaload, 1) := by decide +kernel
theorem dL_law_480 : decode cL_law 480 = .ok (.i2c, 1) := by decide +kernel
theorem dL_law_481 : decode cL_law 481 = .ok (.invokevirtual 69, 3) := by decide +kernel
theorem dL_law_484 : decode cL_law 484 = .ok (.if_icmp .eq 261, 3) := by decide +kernel
theorem dL_law_487 : decode cL_law 487 = .ok (.iconst 0, 1) := by decide +kernel
theorem dL_law_488 : decode cL_law 488 = .ok (.ireturn, 1) := by decide +kernel
theorem dL_law_489 : decode cL_law 489 = .ok (.aload_n 1, 1) := by decide +kernel
theorem dL_law_490 : decode cL_law 490 = .ok (.invokevirtual 70, 3) := by decide +kernel
theorem dL_law_493 : decode cL_law 493 = .ok (.aload_n 2, 1) := by decide +kernel
theorem dL_law_494 : decode cL_law 494 = .ok (.invokevirtual 73, 3) := by decide +kernel
theorem dL_law_497 : decode cL_law 497 = .ok (.if_icmp .eq 248, 3) := by decide +kernel
theorem dL_law_500 : decode cL_law 500 = .ok (.iconst 0, 1) := by decide +kernel
theorem dL_law_501 : decode cL_law 501 = .ok (.ireturn, 1) := by decide +kernel
theorem dL_law_502 : decode cL_law 502 = .ok (.aload_n 1, 1) := by decide +kernel
theorem dL_law_503 : decode cL_law 503 = .ok (.invokevirtual 74, 3) := by decide +kernel
theorem dL_law_506 : decode cL_law 506 = .ok (.aload_n 2, 1) := by decide +kernel
theorem dL_law_507 : decode cL_law 507 = .ok (.invokevirtual 77, 3) := by decide +kernel
theorem dL_law_510 : decode cL_law 510 = .ok (.if_icmp .eq 235, 3) := by decide +kernel
theorem dL_law_513 : decode cL_law 513 = .ok (.iconst 0, 1) := by decide +kernel
theorem dL_law_514 : decode cL_law 514 = .ok (.ireturn, 1) := by decide +kernel
theorem dL_law_515 : decode cL_law 515 = .ok (.aload_n 1, 1) := by decide +kernel
theorem dL_law_516 : decode cL_law 516 = .ok (.invokevirtual 78, 3) := by decide +kernel
theorem dL_law_519 : decode cL_law 519 = .ok (.aload_n 2, 1) := by decide +kernel
theorem dL_law_520 : decode cL_law 520 = .ok (.invokevirtual 81, 3) := by decide +kernel
theorem dL_law_523 : decode cL_law 523 = .ok (.if_icmp .eq 222, 3) := by decide +kernel
theorem dL_law_526 : decode cL_law 526 = .ok (.iconst 0, 1) := by decide +kernel
theorem dL_law_527 : decode cL_law 527 = .ok (.ireturn, 1) := by decide +kernel
theorem dL_law_528 : decode cL_law 528 = .ok (.aload_n 1, 1) := by decide +kernel
theorem dL_law_529 : decode cL_law 529 = .ok (.invokevirtual 82, 3) := by decide +kernel
theorem dL_law_532 : decode cL_law 532 = .ok (.aload_n 2, 1) := by decide +kernel
theorem dL_law_533 : decode cL_law 533 = .ok (.invokevirtual 85, 3) := by decide +kernel
theorem dL_law_536 : decode cL_law 536 = .ok (.if_icmp .eq 209, 3) := by decide +kernel
theorem dL_law_539 : decode cL_law 539 = .ok (.iconst 0, 1) := by decide +kernel
theorem dL_law_540 : decode cL_law 540 = .ok (.ireturn, 1) := by decide +kernel
theorem dL_law_541 : decode cL_law 541 = .ok (.aload_n 1, 1) := by decide +kernel
theorem dL_law_542 : decode cL_law 542 = .ok (.invokevirtual 86, 3) := by decide +kernel
theorem dL_law_545 : decode cL_law 545 = .ok (.aload_n 2, 1) := by decide +kernel
theorem dL_law_546 : decode cL_law 546 = .ok (.invokevirtual 89, 3) := by decide +kernel
theorem dL_law_549 : decode cL_law 549 = .ok (.if_icmp .eq 196, 3) := by decide +kernel
theorem dL_law_552 : decode cL_law 552 = .ok (.iconst 0, 1) := by decide +kernel
theorem dL_law_553 : decode cL_law 553 = .ok (.ireturn, 1) := by decide +kernel
theorem dL_law_554 : decode cL_law 554 = .ok (.aload_n 1, 1) := by decide +kernel
theorem dL_law_555 : decode cL_law 555 = .ok (.aload_n 0, 1) := by decide +kernel
theorem dL_law_556 : decode cL_law 556 = .ok (.iload_n 3, 1) := by decide +kernel
theorem dL_law_557 : decode cL_law 557 = .ok (.iconst 1, 1) := by decide +kernel
theorem dL_law_558 : decode cL_law 558 = .ok (.iadd, 1) := by decide +kernel
theorem dL_law_559 : decode cL_law 559 = .ok (.iaload, 1) := by decide +kernel
theorem dL_law_560 : decode cL_law 560 = .ok (.aload_n 0, 1) := by decide +kernel
theorem dL_law_561 : decode cL_law 561 = .ok (.iload_n 3, 1) := by decide +kernel
theorem dL_law_562 : decode cL_law 562 = .ok (.iconst 2, 1) := by decide +kernel
theorem dL_law_563 : decode cL_law 563 = .ok (.iadd, 1) := by decide +kernel
theorem dL_law_564 : decode cL_law 564 = .ok (.iaload, 1) := by decide +kernel
theorem dL_law_565 : decode cL_law 565 = .ok (.invokevirtual 90, 3) := by decide +kernel
theorem dL_law_568 : decode cL_law 568 = .ok (.aload_n 2, 1) := by decide +kernel
theorem dL_law_569 : decode cL_law 569 = .ok (.aload_n 0, 1) := by decide +kernel
theorem dL_law_570 : decode cL_law 570 = .ok (.iload_n 3, 1) := by decide +kernel
theorem dL_law_571 : decode cL_law 571 = .ok (.iconst 1, 1) := by decide +kernel
theorem dL_law_572 : decode cL_law 572 = .ok (.iadd, 1) := by decide +kernel
theorem dL_law_573 : decode cL_law 573 = .ok (.iaload, 1) := by decide +kernel
theorem dL_law_574 : decode cL_law 574 = .ok (.aload_n 0, 1) := by decide +kernel
theorem dL_law_575 : decode cL_law 575 = .ok (.iload_n 3, 1) := by decide +kernel
theorem dL_law_576 : decode cL_law 576 = .ok (.iconst 2, 1) := by decide +kernel
theorem dL_law_577 : decode cL_law 577 = .ok (.iadd, 1) := by decide +kernel
theorem dL_law_578 : decode cL_law 578 = .ok (.iaload, 1) := by decide +kernel
theorem dL_law_579 : decode cL_law 579 = .ok (.invokevirtual 93, 3) := by decide +kernel
theorem dL_law_582 : decode cL_law 582 = .ok (.if_icmp .eq 163, 3) := by decide +kernel
theorem dL_law_585 : decode cL_law 585 = .ok (.iconst 0, 1) := by decide +kernel
theorem dL_law_586 : decode cL_law 586 = .ok (.ireturn, 1) := by decide +kernel
theorem dL_law_587 : decode cL_law 587 = .ok (.aload_n 1, 1) := by decide +kernel
theorem dL_law_588 : decode cL_law 588 = .ok (.aload_n 0, 1) := by decide +kernel
theorem dL_law_589 : decode cL_law 589 = .ok (.iload_n 3, 1) := by decide +kernel
theorem dL_law_590 : decode cL_law 590 = .ok (.iconst 1, 1) := by decide +kernel
theorem dL_law_591 : decode cL_law 591 = .ok (.iadd, 1) := by decide +kernel
theorem dL_law_592 : decode cL_law 592 = .ok (.iaload, 1) := by decide +kernel
theorem dL_law_593 : decode cL_law 593 = .ok (.aload_n 0, 1) := by decide +kernel
theorem dL_law_594 : decode cL_law 594 = .ok (.iload_n 3, 1) := by decide +kernel
theorem dL_law_595 : decode cL_law 595 = .ok (.iconst 2, 1) := by decide +kernel
theorem dL_law_596 : decode cL_law 596 = .ok (.iadd, 1) := by decide +kernel
theorem dL_law_597 : decode cL_law 597 = .ok (.iaload, 1) := by decide +kernel
theorem dL_law_598 : decode cL_law 598 = .ok (.invokevirtual 94, 3) := by decide +kernel
theorem dL_law_601 : decode cL_law 601 = .ok (.aload_n 2, 1) := by decide +kernel
theorem dL_law_602 : decode cL_law 602 = .ok (.aload_n 0, 1) := by decide +kernel
theorem dL_law_603 : decode cL_law 603 = .ok (.iload_n 3, 1) := by decide +kernel
theorem dL_law_604 : decode cL_law 604 = .ok (.iconst 1, 1) := by decide +kernel
theorem dL_law_605 : decode cL_law 605 = .ok (.iadd, 1) := by decide +kernel
theorem dL_law_606 : decode cL_law 606 = .ok (.iaload, 1) := by decide +kernel
theorem dL_law_607 : decode cL_law 607 = .ok (.aload_n 0, 1) := by decide +kernel
theorem dL_law_608 : decode cL_law 608 = .ok (.iload_n 3, 1) := by decide +kernel
theorem dL_law_609 : decode cL_law 609 = .ok (.iconst 2, 1) := by decide +kernel
theorem dL_law_610 : decode cL_law 610 = .ok (.iadd, 1) := by decide +kernel
theorem dL_law_611 : decode cL_law 611 = .ok (.iaload, 1) := by decide +kernel
theorem dL_law_612 : decode cL_law 612 = .ok (.invokevirtual 97, 3) := by decide +kernel
theorem dL_law_615 : decode cL_law 615 = .ok (.if_icmp .eq 130, 3) := by decide +kernel
theorem dL_law_618 : decode cL_law 618 = .ok (.iconst 0, 1) := by decide +kernel
theorem dL_law_619 : decode cL_law 619 = .ok (.ireturn, 1) := by decide +kernel
theorem dL_law_620 : decode cL_law 620 = .ok (.aload_n 1, 1) := by decide +kernel
theorem dL_law_621 : decode cL_law 621 = .ok (.aload_n 0, 1) := by decide +kernel
theorem dL_law_622 : decode cL_law 622 = .ok (.iload_n 3, 1) := by decide +kernel
theorem dL_law_623 : decode cL_law 623 = .ok (.iconst 1, 1) := by decide +kernel
theorem dL_law_624 : decode cL_law 624 = .ok (.iadd, 1) := by decide +kernel
theorem dL_law_625 : decode cL_law 625 = .ok (.iaload, 1) := by decide +kernel
theorem dL_law_626 : decode cL_law 626 = .ok (.invokevirtual 98, 3) := by decide +kernel
theorem dL_law_629 : decode cL_law 629 = .ok (.aload_n 2, 1) := by decide +kernel
theorem dL_law_630 : decode cL_law 630 = .ok (.aload_n 0, 1) := by decide +kernel
theorem dL_law_631 : decode cL_law 631 = .ok (.iload_n 3, 1) := by decide +kernel
theorem dL_law_632 : decode cL_law 632 = .ok (.iconst 1, 1) := by decide +kernel
theorem dL_law_633 : decode cL_law 633 = .ok (.iadd, 1) := by decide +kernel
theorem dL_law_634 : decode cL_law 634 = .ok (.iaload, 1) := by decide +kernel
theorem dL_law_635 : decode cL_law 635 = .ok (.invokevirtual 101, 3) := by decide +kernel
theorem dL_law_638 : decode cL_law 638 = .ok (.if_icmp .eq 107, 3) := by decide +kernel
theorem dL_law_641 : decode cL_law 641 = .ok (.iconst 0, 1) := by decide +kernel
theorem dL_law_642 : decode cL_law 642 = .ok (.ireturn, 1) := by decide +kernel
theorem dL_law_643 : decode cL_law 643 = .ok (.aload_n 1, 1) := by decide +kernel
theorem dL_law_644 : decode cL_law 644 = .ok (.aload_n 0, 1) := by decide +kernel
theorem dL_law_645 : decode cL_law 645 = .ok (.iload_n 3, 1) := by decide +kernel
theorem dL_law_646 : decode cL_law 646 = .ok (.iconst 1, 1) := by decide +kernel
theorem dL_law_647 : decode cL_law 647 = .ok (.iadd, 1) := by decide +kernel
theorem dL_law_648 : decode cL_law 648 = .ok (.iaload, 1) := by decide +kernel
theorem dL_law_649 : decode cL_law 649 = .ok (.invokevirtual 102, 3) := by decide +kernel
theorem dL_law_652 : decode cL_law 652 = .ok (.aload_n 2, 1) := by decide +kernel
theorem dL_law_653 : decode cL_law 653 = .ok (.aload_n 0, 1) := by decide +kernel
theorem dL_law_654 : decode cL_law 654 = .ok (.iload_n 3, 1) := by decide +kernel
theorem dL_law_655 : decode cL_law 655 = .ok (.iconst 1, 1) := by decide +kernel
theorem dL_law_656 : decode cL_law 656 = .ok (.iadd, 1) := by decide +kernel
theorem dL_law_657 : decode cL_law 657 = .ok (.iaload, 1) := by decide +kernel
theorem dL_law_658 : decode cL_law 658 = .ok (.invokevirtual 105, 3) := by decide +kernel
theorem dL_law_661 : decode cL_law 661 = .ok (.if_icmp .eq 84, 3) := by decide +kernel
theorem dL_law_664 : decode cL_law 664 = .ok (.iconst 0, 1) := by decide +kernel
theorem dL_law_665 : decode cL_law 665 = .ok (.ireturn, 1) := by decide +kernel
theorem dL_law_666 : decode cL_law 666 = .ok (.aload_n 1, 1) := by decide +kernel
theorem dL_law_667 : decode cL_law 667 = .ok (.aload_n 0, 1) := by decide +kernel
theorem dL_law_668 : decode cL_law 668 = .ok (.iload_n 3, 1) := by decide +kernel
theorem dL_law_669 : decode cL_law 669 = .ok (.iconst 1, 1) := by decide +kernel
theorem dL_law_670 : decode cL_law 670 = .ok (.iadd, 1) := by decide +kernel
theorem dL_law_671 : decode cL_law 671 = .ok (.iaload, 1) := by decide +kernel
theorem dL_law_672 : decode cL_law 672 = .ok (.invokevirtual 106, 3) := by decide +kernel
theorem dL_law_675 : decode cL_law 675 = .ok (.aload_n 2, 1) := by decide +kernel
theorem dL_law_676 : decode cL_law 676 = .ok (.aload_n 0, 1) := by decide +kernel
theorem dL_law_677 : decode cL_law 677 = .ok (.iload_n 3, 1) := by decide +kernel
theorem dL_law_678 : decode cL_law 678 = .ok (.iconst 1, 1) := by decide +kernel
theorem dL_law_679 : decode cL_law 679 = .ok (.iadd, 1) := by decide +kernel
theorem dL_law_680 : decode cL_law 680 = .ok (.iaload, 1) := by decide +kernel
theorem dL_law_681 : decode cL_law 681 = .ok (.invokevirtual 109, 3) := by decide +kernel
theorem dL_law_684 : decode cL_law 684 = .ok (.if_icmp .eq 61, 3) := by decide +kernel
theorem dL_law_687 : decode cL_law 687 = .ok (.iconst 0, 1) := by decide +kernel
theorem dL_law_688 : decode cL_law 688 = .ok (.ireturn, 1) := by decide +kernel
theorem dL_law_689 : decode cL_law 689 = .ok (.aload_n 1, 1) := by decide +kernel
theorem dL_law_690 : decode cL_law 690 = .ok (.aload_n 0, 1) := by decide +kernel
theorem dL_law_691 : decode cL_law 691 = .ok (.iload_n 3, 1) := by decide +kernel
theorem dL_law_692 : decode cL_law 692 = .ok (.iconst 1, 1) := by decide +kernel
theorem dL_law_693 : decode cL_law 693 = .ok (.iadd, 1) := by decide +kernel
theorem dL_law_694 : decode cL_law 694 = .ok (.iaload, 1) := by decide +kernel
theorem dL_law_695 : decode cL_law 695 = .ok (.aload_n 0, 1) := by decide +kernel
theorem dL_law_696 : decode cL_law 696 = .ok (.iload_n 3, 1) := by decide +kernel
theorem dL_law_697 : decode cL_law 697 = .ok (.iconst 2, 1) := by decide +kernel
theorem dL_law_698 : decode cL_law 698 = .ok (.iadd, 1) := by decide +kernel
theorem dL_law_699 : decode cL_law 699 = .ok (.iaload, 1) := by decide +kernel
theorem dL_law_700 : decode cL_law 700 = .ok (.invokevirtual 110, 3) := by decide +kernel
theorem dL_law_703 : decode cL_law 703 = .ok (.aload_n 2, 1) := by decide +kernel
theorem dL_law_704 : decode cL_law 704 = .ok (.aload_n 0, 1) := by decide +kernel
theorem dL_law_705 : decode cL_law 705 = .ok (.iload_n 3, 1) := by decide +kernel
theorem dL_law_706 : decode cL_law 706 = .ok (.iconst 1, 1) := by decide +kernel
theorem dL_law_707 : decode cL_law 707 = .ok (.iadd, 1) := by decide +kernel
theorem dL_law_708 : decode cL_law 708 = .ok (.iaload, 1) := by decide +kernel
theorem dL_law_709 : decode cL_law 709 = .ok (.aload_n 0, 1) := by decide +kernel
theorem dL_law_710 : decode cL_law 710 = .ok (.iload_n 3, 1) := by decide +kernel
theorem dL_law_711 : decode cL_law 711 = .ok (.iconst 2, 1) := by decide +kernel
theorem dL_law_712 : decode cL_law 712 = .ok (.iadd, 1) := by decide +kernel
theorem dL_law_713 : decode cL_law 713 = .ok (.iaload, 1) := by decide +kernel
theorem dL_law_714 : decode cL_law 714 = .ok (.invokevirtual 113, 3) := by decide +kernel
theorem dL_law_717 : decode cL_law 717 = .ok (.if_icmp .eq 28, 3) := by decide +kernel
theorem dL_law_720 : decode cL_law 720 = .ok (.iconst 0, 1) := by decide +kernel
theorem dL_law_721 : decode cL_law 721 = .ok (.ireturn, 1) := by decide +kernel
theorem dL_law_722 : decode cL_law 722 = .ok (.aload_n 1, 1) := by decide +kernel
theorem dL_law_723 : decode cL_law 723 = .ok (.aload_n 0, 1) := by decide +kernel
theorem dL_law_724 : decode cL_law 724 = .ok (.iload_n 3, 1) := by decide +kernel
theorem dL_law_725 : decode cL_law 725 = .ok (.iconst 1, 1) := by decide +kernel
theorem dL_law_726 : decode cL_law 726 = .ok (.iadd, 1) := by decide +kernel
theorem dL_law_727 : decode cL_law 727 = .ok (.iaload, 1) := by decide +kernel
theorem dL_law_728 : decode cL_law 728 = .ok (.invokevirtual 114, 3) := by decide +kernel
theorem dL_law_731 : decode cL_law 731 = .ok (.aload_n 2, 1) := by decide +kernel
theorem dL_law_732 : decode cL_law 732 = .ok (.aload_n 0, 1) := by decide +kernel
theorem dL_law_733 : decode cL_law 733 = .ok (.iload_n 3, 1) := by decide +kernel
theorem dL_law_734 : decode cL_law 734 = .ok (.iconst 1, 1) := by decide +kernel
theorem dL_law_735 : decode cL_law 735 = .ok (.iadd, 1) := by decide +kernel
theorem dL_law_736 : decode cL_law 736 = .ok (.iaload, 1) := by decide +kernel
theorem dL_law_737 : decode cL_law 737 = .ok (.invokevirtual 117, 3) := by decide +kernel
theorem dL_law_740 : decode cL_law 740 = .ok (.if_icmp .eq 5, 3) := by decide +kernel
theorem dL_law_743 : decode cL_law 743 = .ok (.iconst 0, 1) := by decide +kernel
theorem dL_law_744 : decode cL_law 744 = .ok (.ireturn, 1) := by decide +kernel
theorem dL_law_745 : decode cL_law 745 = .ok (.iinc 3 5, 3) := by decide +kernel
theorem dL_law_748 : decode cL_law 748 = .ok (.goto (-730), 3) := by decide +kernel
theorem dL_law_751 : decode cL_law 751 = .ok (.iconst 1, 1) := by decide +kernel
theorem dL_law_752 : decode cL_law 752 = .ok (.ireturn, 1) := by decide +kernel
end
section
/-! ===== the world: cells at their addresses, ints in a memory (address, slot), references fixed ===== -/
def vi (a : Int) : Value := .int (Int32.ofInt a)
abbrev xD : Type := va_G × (Nat → ClassId)
abbrev xKd : Type := Nat → Option (Nat ⊕ (Nat × Nat))
abbrev xRf : Type := Nat → Nat → Option Value
abbrev xM : Type := Nat → Nat → Int
abbrev xPost : Type := Option Value → Nat → xKd → xRf → xM → Prop
def aty : Nat → FieldType := fun k => match k with
  | 0 => .int
  | 1 => .char
  | 2 => .object RX1
  | 3 => .object RX0
  | _ => .object RX4
def xT (D : xD) : List (ClassId × FieldType) := [(D.2 0, .int), (D.2 1, .char), (D.2 2, .object RX1), (D.2 3, .object RX0), (D.2 4, .object RX4)]
/-- the slots that are booleans -/
def isZ (ci k : Nat) : Bool := (ci == 1 && k == 6) || (ci == 5 && k == 3) || (ci == 6 && k == 4)
/-- one slot of a row; one row of a memory -/
def fu (r : Nat → Int) (k : Nat) (x : Int) : Nat → Int := fun j => if j = k then x else r j
def ms (M : xM) (a : Nat) (r : Nat → Int) : xM := fun a' => if a' = a then r else M a'
def mu (M : xM) (a k : Nat) (x : Int) : xM := ms M a (fu (M a) k x)
theorem fu_same {r : Nat → Int} {k : Nat} {x : Int} : fu r k x k = x := if_pos rfl
theorem fu_ne {r : Nat → Int} {k j : Nat} {x : Int} (h : j ≠ k) : fu r k x j = r j := if_neg h
theorem fu_at (r : Nat → Int) (k : Nat) (x : Int) (j : Nat) : fu r k x j = if j = k then x else r j := rfl
theorem ms_same {M : xM} {a : Nat} {r : Nat → Int} : ms M a r a = r := if_pos rfl
theorem ms_ne {M : xM} {a b : Nat} {r : Nat → Int} (h : b ≠ a) : ms M a r b = M b := if_neg h
theorem ms_at (M : xM) (a : Nat) (r : Nat → Int) (b : Nat) : ms M a r b = if b = a then r else M b := rfl
theorem ms_ms {M : xM} {a : Nat} {r r' : Nat → Int} : ms (ms M a r) a r' = ms M a r' := by
  funext b
  by_cases h : b = a
  · subst h
    rw [ms_same, ms_same]
  · rw [ms_ne h, ms_ne h, ms_ne h]
theorem ms_self {M : xM} {a : Nat} : ms M a (M a) = M := by
  funext b
  by_cases h : b = a
  · subst h
    rw [ms_same]
  · rw [ms_ne h]
theorem fu_fu {r : Nat → Int} {k : Nat} {x x' : Int} : fu (fu r k x) k x' = fu r k x' := by
  funext j
  by_cases h : j = k
  · subst h
    rw [fu_same, fu_same]
  · rw [fu_ne h, fu_ne h, fu_ne h]
def ru (rf : xRf) (a k : Nat) (v : Value) : xRf := fun a' k' => if a' = a ∧ k' = k then some v else rf a' k'
theorem mu_read (M : xM) (a k : Nat) (x : Int) (a' k' : Nat) : mu M a k x a' k' = if a' = a ∧ k' = k then x else M a' k' := by
  unfold mu ms fu
  by_cases h : a' = a
  · subst h
    simp
  · simp [h]
theorem mu_same {M : xM} {a k : Nat} {x : Int} : mu M a k x a k = x := by rw [mu_read, if_pos ⟨rfl, rfl⟩]
theorem mu_ne {M : xM} {a k : Nat} {x : Int} {a' k' : Nat} (h : a' ≠ a ∨ k' ≠ k) : mu M a k x a' k' = M a' k' := by
  rw [mu_read, if_neg]
  rintro ⟨h1, h2⟩
  rcases h with h | h
  · exact h h1
  · exact h h2
def xV (rf : xRf) (M : xM) (a k : Nat) : Value := (rf a k).getD (vi (M a k))
theorem xV_int {rf : xRf} {M : xM} {a k : Nat} (h : rf a k = none) : xV rf M a k = vi (M a k) := by simp [xV, h]
theorem xV_ref {rf : xRf} {M : xM} {a k : Nat} {v : Value} (h : rf a k = some v) : xV rf M a k = v := by simp [xV, h]
theorem xV_mu {rf : xRf} {M : xM} {a k : Nat} {x : Int} (h : rf a k = none) : xV rf (mu M a k x) a = updV (xV rf M a) k (vi x) := by
  funext j
  by_cases hj : j = k
  · subst hj
    simp [xV, h, mu_read, updV]
  · simp [xV, mu_read, updV, hj]
theorem xV_mu_ne {rf : xRf} {M : xM} {a k b : Nat} {x : Int} (h : b ≠ a) : xV rf (mu M a k x) b = xV rf M b := by
  funext j
  simp [xV, mu_read, h]
theorem xV_ru {rf : xRf} {M : xM} {a k : Nat} {v : Value} : xV (ru rf a k v) M a = updV (xV rf M a) k v := by
  funext j
  by_cases hj : j = k
  · subst hj
    simp [xV, ru, updV]
  · simp [xV, ru, updV, hj]
theorem xV_ru_ne {rf : xRf} {M : xM} {a k b : Nat} {v : Value} (h : b ≠ a) : xV (ru rf a k v) M b = xV rf M b := by
  funext j
  simp [xV, ru, h]
def xCell (D : xD) (k : Nat ⊕ (Nat × Nat)) (a : Nat) (V : Nat → Value) (H : Heap) : Prop := match k with
  | .inl ci => ∃ r : vw_C, vwCl[ci]? = some r ∧ t_OB a (D.1.1 ci) r.2.2 (D.1.2 ci) H V
  | .inr q => H[a]? = some (arrV (D.2 q.1) q.2 V)
theorem xCell.kept {D : xD} {k : Nat ⊕ (Nat × Nat)} {a : Nat} {V : Nat → Value} {H H1 : Heap} (h : xCell D k a V H) (h1 : H1[a]? = H[a]?) : xCell D k a V H1 := by
  cases k with
  | inl ci =>
    obtain ⟨r, hr, ho⟩ := h
    exact ⟨r, hr, ho.kept h1⟩
  | inr q => exact h1.trans h
theorem xCell.lt {D : xD} {k : Nat ⊕ (Nat × Nat)} {a : Nat} {V : Nat → Value} {H : Heap} (h : xCell D k a V H) : a < H.size := by
  cases k with
  | inl ci =>
    obtain ⟨r, hr, cell, ho, -⟩ := h
    exact (Array.getElem?_eq_some_iff.mp ho).1
  | inr q => exact (Array.getElem?_eq_some_iff.mp h).1
def xOk (kd : xKd) (M : xM) : Prop := (∀ a ci k, kd a = some (.inl ci) → isZ ci k = true → M a k = 0 ∨ M a k = 1) ∧ ∀ a n j, kd a = some (.inr (1, n)) → 0 ≤ M a j ∧ M a j < 65536
def Wd (D : xD) (Bs sz : Nat) (kd : xKd) (rf : xRf) (M : xM) (H : Heap) : Prop := H.size = sz ∧ Bs ≤ sz ∧ (∀ a k, kd a = some k → Bs ≤ a ∧ xCell D k a (xV rf M a) H) ∧ xOk kd M
def xK (D : xD) (U : State) : Prop := va_K D.1 vwCl (xT D) U ∧ (∀ w ∈ nw, va_Nw w U) ∧ va_AO RX1 U ∧ va_AO RX0 U ∧ va_AO RX4 U
theorem nw_tab {w : Cond} (h : w ∈ nw) : w.onTables = true := by
  have h2 := (List.mem_filter.mp h).2
  cases w <;> first | rfl | cases h2
theorem xK.warm {D : xD} {s U : State} (hW : s.WarmedH U.vm) (h : xK D s) : xK D U := by
  obtain ⟨h1, h2, h3, h4, h5⟩ := h
  refine ⟨va_K.moved hW.alike h1, fun w hw => ?_, va_AO.moved hW.alike h3, va_AO.moved hW.alike h4, va_AO.moved hW.alike h5⟩
  have hz := h2 w hw
  have hi := (List.mem_filter.mp hw).2
  cases w <;> first | exact va_Nw.warmF hW hz | exact va_Nw.warmM hW hz | cases hi
theorem xK.same {D : xD} {s U : State} (hv : s.vm = U.vm) (h : xK D s) : xK D U := by
  obtain ⟨h1, h2, h3, h4, h5⟩ := h
  have ha : s.vm.Alike U.vm := by rw [hv]; exact Vm.Alike.refl _
  exact ⟨va_K.moved ha h1, fun w hw => va_Nw.same (nw_tab hw) hv (h2 w hw), va_AO.moved ha h3, va_AO.moved ha h4, va_AO.moved ha h5⟩
/-- what stands of a method's frame, all the way -/
def Cx (p : Program) (s : State) (m : MethodId) (meth : Method) (c : Code) (args : Array Value) (cc : ByteArray) (nL : Nat) (own : String) (ret : Option FieldType) (D : xD) : Prop :=
  p.tables.exec = Jvm.exec ∧ c.code = cc ∧ c.maxLocals = nL ∧ s.vm.findClass own = some m.cls ∧ (∀ w ∈ gw, w.before args s = true) ∧ xK D s ∧ meth.sig.returnType = ret ∧ meth.locks = false
def lvl : Nat → List (Option Value) → List (Nat × Value)
  | _, [] => []
  | k, none :: t => lvl (k + 1) t
  | k, some v :: t => (k, v) :: lvl (k + 1) t
theorem lvl_of : ∀ {ls : List (Option Value)} {k : Nat} {q : Nat × Value}, q ∈ lvl k ls → ∃ i, q.1 = k + i ∧ ls[i]? = some (some q.2)
  | [], _, _, h => by simp [lvl] at h
  | none :: t, k, q, h => by
    obtain ⟨i, h1, h2⟩ := lvl_of (ls := t) (k := k + 1) h
    exact ⟨i + 1, by omega, by simpa using h2⟩
  | some v :: t, k, q, h => by
    rcases List.mem_cons.mp h with h | h
    · subst h
      exact ⟨0, rfl, rfl⟩
    · obtain ⟨i, h1, h2⟩ := lvl_of (ls := t) (k := k + 1) h
      exact ⟨i + 1, by omega, by simpa using h2⟩
theorem lvl_in : ∀ {ls : List (Option Value)} {k i : Nat} {v : Value}, ls[i]? = some (some v) → (k + i, v) ∈ lvl k ls
  | [], _, _, _, h => by simp at h
  | none :: t, k, 0, v, h => by simp at h
  | none :: t, k, i + 1, v, h => by
    have := lvl_in (ls := t) (k := k + 1) (i := i) (v := v) (by simpa using h)
    rw [show k + (i + 1) = k + 1 + i by omega]
    exact this
  | some w :: t, k, 0, v, h => by
    simp at h
    subst h
    exact List.mem_cons_self
  | some w :: t, k, i + 1, v, h => by
    have := lvl_in (ls := t) (k := k + 1) (i := i) (v := v) (by simpa using h)
    rw [show k + (i + 1) = k + 1 + i by omega]
    exact List.mem_cons_of_mem _ this
def Lh (la : Array Slot) (nL : Nat) (ls : List (Option Value)) : Prop := lv_has la nL (lvl 0 ls) ∧ ∀ v, some v ∈ ls → v.category = 1
theorem Lh.get {la : Array Slot} {nL i : Nat} {ls : List (Option Value)} {v : Value} (h : Lh la nL ls) (hi : ls[i]? = some (some v)) : la[i]? = some (.val v) := by
  have := h.1.2.2 _ (lvl_in (k := 0) hi)
  simpa using this
theorem Lh.set {la la' : Array Slot} {nL i : Nat} {ls : List (Option Value)} {v : Value} (h : Lh la nL ls) (hv : v.category = 1) (h' : lv_has la' nL ((i, v) :: (lvl 0 ls).filter (fun q => !(q.1 == i) && !(q.1 + 1 == i && q.2.category == 2)))) : Lh la' nL (ls.set i (some v)) := by
  refine ⟨⟨h'.1, h'.2.1, fun q hq => ?_⟩, fun w hw => ?_⟩
  · obtain ⟨j, h1, h2⟩ := lvl_of hq
    have e : q.1 = j := by omega
    by_cases hj : j = i
    · subst hj
      rw [List.getElem?_set] at h2
      simp at h2
      have h3 := h'.2.2 (j, v) List.mem_cons_self
      rw [e, ← h2.2]
      exact h3
    · rw [List.getElem?_set_ne (Ne.symm hj)] at h2
      have h3 := lvl_in (k := 0) h2
      have h4 : q.2.category = 1 := h.2 _ (List.mem_of_getElem? h2)
      have h5 := h'.2.2 (0 + j, q.2) (List.mem_cons_of_mem _ (List.mem_filter.mpr ⟨h3, by simp [hj, h4]⟩))
      rw [e]
      simpa using h5
  · rcases List.mem_or_eq_of_mem_set hw with h1 | h1
    · exact h.2 w h1
    · cases h1
      exact hv
/-- the machine at pc, over the world, with locals ls and stack st: it comes to a state with Q -/
def G (p : Program) (l : Launch) (e : Env) (R : Room) (s : State) (m : MethodId) (args : Array Value) (below : List Frame) (meth : Method) (c : Code) (D : xD) (Bs nL cells slots : Nat) (Q : State → Prop) (sz : Nat) (kd : xKd) (rf : xRf) (M : xM) (pc : Nat) (ls : List (Option Value)) (st : List Value) : Prop :=
  ∀ (H : Heap) (locs : List Loc) (la : Array Slot), Wd D Bs sz kd rf M H → va_S (fun q => Bs ≤ q) s.heap H locs → Lh la nL ls → W p l e R s m args below meth c H locs cells slots Q (F0 m pc la st)
/-- a contract: its end, its start -/
def xQ (D : xD) (Bs : Nat) (post : xPost) : Array Value → State → Outcome → State → Prop := fun _ st oc t => (∃ v sz' kd' rf' M', oc = .returned v ∧ post v sz' kd' rf' M' ∧ Wd D Bs sz' kd' rf' M' t.heap) ∧ va_F (fun q => Bs ≤ q) st t
def xP (D : xD) (Bs : Nat) (as : List Value) (sz : Nat) (kd : xKd) (rf : xRf) (M : xM) : Array Value → State → Prop := va_Pc as (fun U => Wd D Bs sz kd rf M U.heap ∧ xK D U)
def Ctr (l : Launch) (D : xD) (Bs : Nat) (y : MethodName) (b : ByteArray) (n : Nat) (ret : Option FieldType) (rm : Room) (as : List Value) (sz : Nat) (kd : xKd) (rf : xRf) (M : xM) (mc ms : Nat) (post : xPost) : Prop :=
  Met l y (Cond.code y b n ret :: gw) rm (xP D Bs as sz kd rf M) (xQ D Bs post) mc ms (fun q => Bs ≤ q)
def rmd (d : Nat) : Room := { frames := d, cells := 0, slots := 0, locals := 40 * d }
def rmc (d c n : Nat) : Room := { frames := d, cells := c, slots := n, locals := 40 * d }
abbrev pI (sz : Nat) (kd : xKd) (rf : xRf) (P : Int → xM → Prop) : xPost := fun v sz' kd' rf' M' => sz' = sz ∧ kd' = kd ∧ rf' = rf ∧ ∃ r, v = some (vi r) ∧ P r M'
abbrev pV (sz : Nat) (kd : xKd) (rf : xRf) (P : xM → Prop) : xPost := fun v sz' kd' rf' M' => sz' = sz ∧ kd' = kd ∧ rf' = rf ∧ v = none ∧ P M'
abbrev pR (sz : Nat) (kd : xKd) (rf : xRf) (P : Value → xM → Prop) : xPost := fun v sz' kd' rf' M' => sz' = sz ∧ kd' = kd ∧ rf' = rf ∧ ∃ r, v = some r ∧ P r M'
abbrev CtI (l : Launch) (D : xD) (Bs : Nat) (y : MethodName) (b : ByteArray) (n : Nat) (ret : Option FieldType) (d : Nat) (as : List Value) (sz : Nat) (kd : xKd) (rf : xRf) (M : xM) (P : Int → xM → Prop) : Prop := Ctr l D Bs y b n ret (rmd d) as sz kd rf M 0 0 (pI sz kd rf P)
abbrev CtV (l : Launch) (D : xD) (Bs : Nat) (y : MethodName) (b : ByteArray) (n : Nat) (ret : Option FieldType) (d : Nat) (as : List Value) (sz : Nat) (kd : xKd) (rf : xRf) (M : xM) (P : xM → Prop) : Prop := Ctr l D Bs y b n ret (rmd d) as sz kd rf M 0 0 (pV sz kd rf P)
abbrev CtR (l : Launch) (D : xD) (Bs : Nat) (y : MethodName) (b : ByteArray) (n : Nat) (ret : Option FieldType) (d : Nat) (as : List Value) (sz : Nat) (kd : xKd) (rf : xRf) (M : xM) (P : Value → xM → Prop) : Prop := Ctr l D Bs y b n ret (rmd d) as sz kd rf M 0 0 (pR sz kd rf P)
theorem xP_blind {D : xD} {Bs : Nat} {as : List Value} {sz : Nat} {kd : xKd} {rf : xRf} {M : xM} : FrameBlind (xP D Bs as sz kd rf M) := fun a U g mk h => ⟨h.1, h.2.1, xK.same (s := U) (U := U.calling g mk a) rfl h.2.2⟩
theorem gw_cons {y : MethodName} {b : ByteArray} {n : Nat} {ret : Option FieldType} (h : Cond.code y b n ret ∈ gw) : GoodIn gw (Cond.code y b n ret :: gw) := fun w hw => by
  rcases List.mem_cons.mp hw with e | h2
  · subst e
    exact ⟨h, gw_good h⟩
  · exact ⟨h2, gw_good h2⟩
theorem lvl_nones (k j : Nat) : lvl k (List.replicate j none) = [] := by
  induction j generalizing k with
  | zero => rfl
  | succ j ih => exact ih (k + 1)
theorem lvl_args : ∀ (as : List Value) (k j : Nat), (∀ v ∈ as, v.category = 1) → lvl k (as.map some ++ List.replicate j none) = lv_args k as
  | [], k, j, _ => lvl_nones k j
  | v :: t, k, j, h => by
    have hv : v.category = 1 := h v List.mem_cons_self
    show (k, v) :: lvl (k + 1) (t.map some ++ List.replicate j none) = (k, v) :: lv_args (if v.category = 2 then k + 2 else k + 1) t
    rw [lvl_args t (k + 1) j (fun w hw => h w (List.mem_cons_of_mem _ hw)), if_neg (by omega)]
set_option maxHeartbeats 1000000 in
theorem Ctr.of {l : Launch} {D : xD} {Bs : Nat} {y : MethodName} {b : ByteArray} {n : Nat} {ret : Option FieldType} {rm : Room} {as : List Value} {sz : Nat} {kd : xKd} {rf : xRf} {M : xM} {mc ms : Nat} {post : xPost} (hpl : plainName y.cls = true) (hc1 : ∀ v ∈ as, v.category = 1) (hen : (lg_sl as).length ≤ n) (ls0 : List (Option Value)) (hls : as.map some ++ List.replicate (n - as.length) none = ls0)
    (body : ∀ (p : Program) (e : Env) (s : State) (m : MethodId) (args : Array Value) (below : List Frame) (meth : Method) (c : Code), Cx p s m meth c args b n y.cls ret D → (y.name = "<init>" → meth.name = "<init>") → G p l e rm s m args below meth c D Bs n 0 0 (MQ below (xQ D Bs post) args s mc ms (fun q => Bs ≤ q)) sz kd rf M 0 ls0 []) :
    Ctr l D Bs y b n ret rm as sz kd rf M mc ms post := by
  refine Met.ofW (cc := b) (maxL := n) (ret := ret) hpl rfl ?_
  intro p e s m args below meth c s₁ B hml hv
  obtain ⟨rfl, hW, hK⟩ := hv
  have hts := atoms_spec (ws := Cond.code y b n ret :: gw) B.pre
  have X : Cx p s m meth c as.toArray b n y.cls ret D := ⟨B.exec, B.bytes, hml, findClass_of_methodNamed B.named, fun w hw => hts w (List.mem_cons_of_mem _ hw), hK, B.returns, B.notSynchronized⟩
  have hg := body p e s m as.toArray below meth c X (fun h => (name_of_methodNamed B.named B.method).1.trans h)
  have hl := lv_entry as (n := n) hen
  rw [lg_entry_eq]
  refine hg s.heap [] _ hW va_S.rf ⟨?_, ?_⟩
  · rw [← hls, lvl_args as 0 _ hc1]
    exact hl
  · intro v hv
    rw [← hls] at hv
    rcases List.mem_append.mp hv with h | h
    · obtain ⟨w, h1, h2⟩ := List.mem_map.mp h
      cases h2
      exact hc1 _ h1
    · have := List.eq_of_mem_replicate h
      cases this
section GR
variable {p : Program} {l : Launch} {e : Env} {R : Room} {s : State} {m : MethodId} {args : Array Value} {below : List Frame} {meth : Method} {c : Code} {D : xD} {Bs nL cells slots : Nat} {Q : State → Prop} {sz : Nat} {kd : xKd} {rf : xRf} {M : xM} {cc : ByteArray} {own : String} {ret : Option FieldType} {pc : Nat} {ls : List (Option Value)} {st : List Value}
theorem vi_add (a b : Int) : Value.int (Int32.ofInt a + Int32.ofInt b) = vi (a + b) := by rw [vi, Int32.ofInt_add]
theorem vi_sub (a b : Int) : Value.int (Int32.ofInt a - Int32.ofInt b) = vi (a - b) := by rw [vi, Int32.ofInt_sub]
theorem vi_mul (a b : Int) : Value.int (Int32.ofInt a * Int32.ofInt b) = vi (a * b) := by rw [vi, Int32.ofInt_mul]
theorem vi_cat (a : Int) : (vi a).category = 1 := rfl
theorem oI_t {a : Int} (h : -2147483648 ≤ a ∧ a ≤ 2147483647) : (Int32.ofInt a).toInt = a := Int32.toInt_ofInt_of_le (by omega) (by omega)
theorem oI_lt {a b : Int} (ha : -2147483648 ≤ a ∧ a ≤ 2147483647) (hb : -2147483648 ≤ b ∧ b ≤ 2147483647) : Int32.ofInt a < Int32.ofInt b ↔ a < b := by rw [Int32.lt_iff_toInt_lt, oI_t ha, oI_t hb]
theorem oI_le {a b : Int} (ha : -2147483648 ≤ a ∧ a ≤ 2147483647) (hb : -2147483648 ≤ b ∧ b ≤ 2147483647) : Int32.ofInt a ≤ Int32.ofInt b ↔ a ≤ b := by rw [Int32.le_iff_toInt_le, oI_t ha, oI_t hb]
theorem oI_eq {a b : Int} (ha : -2147483648 ≤ a ∧ a ≤ 2147483647) (hb : -2147483648 ≤ b ∧ b ≤ 2147483647) : Int32.ofInt a = Int32.ofInt b ↔ a = b := by rw [← Int32.toInt_inj, oI_t ha, oI_t hb]
theorem oI_0 : (0 : Int32) = Int32.ofInt 0 := by decide
theorem oI_nat (n : Nat) : Int32.ofInt (n : Int) = nI n := Int32.ofInt_eq_ofNat
theorem vi_inj {a b : Int} (ha : -2147483648 ≤ a ∧ a ≤ 2147483647) (hb : -2147483648 ≤ b ∧ b ≤ 2147483647) (h : vi a = vi b) : a = b := (oI_eq ha hb).mp (Value.int.inj h)
theorem G.iconst (X : Cx p s m meth c args cc nL own ret D) {n : Int} (pc' : Nat) (hd : decode cc pc = .ok (.iconst n, 1)) (hp : pc + 1 = pc')
    (kk : G p l e R s m args below meth c D Bs nL cells slots Q sz kd rf M pc' ls (vi n :: st)) : G p l e R s m args below meth c D Bs nL cells slots Q sz kd rf M pc ls st := by
  intro H locs la hW hS hL
  subst hp
  exact lv_iconst X.1 X.2.1 hd rfl (kk H locs la hW hS hL)
theorem G.bipush (X : Cx p s m meth c args cc nL own ret D) {n : Int} (pc' : Nat) (hd : decode cc pc = .ok (.bipush n, 2)) (hp : pc + 2 = pc') (hn : (Int8.ofInt n).toInt32 = Int32.ofInt n)
    (kk : G p l e R s m args below meth c D Bs nL cells slots Q sz kd rf M pc' ls (vi n :: st)) : G p l e R s m args below meth c D Bs nL cells slots Q sz kd rf M pc ls st := by
  intro H locs la hW hS hL
  subst hp
  exact lv_bipush X.1 X.2.1 hd hn (kk H locs la hW hS hL)
theorem G.sipush (X : Cx p s m meth c args cc nL own ret D) {n : Int} (pc' : Nat) (hd : decode cc pc = .ok (.sipush n, 3)) (hp : pc + 3 = pc') (hn : (Int16.ofInt n).toInt32 = Int32.ofInt n)
    (kk : G p l e R s m args below meth c D Bs nL cells slots Q sz kd rf M pc' ls (vi n :: st)) : G p l e R s m args below meth c D Bs nL cells slots Q sz kd rf M pc ls st := by
  intro H locs la hW hS hL
  subst hp
  exact lv_sipush X.1 X.2.1 hd hn (kk H locs la hW hS hL)
theorem G.ldc (X : Cx p s m meth c args cc nL own ret D) {n : Int} {i : Nat} {v : Int32} (ko : Cond.constant own i v ∈ gw) (pc' : Nat) (hd : decode cc pc = .ok (.ldc i, 2)) (hp : pc + 2 = pc') (hn : v = Int32.ofInt n)
    (kk : G p l e R s m args below meth c D Bs nL cells slots Q sz kd rf M pc' ls (vi n :: st)) : G p l e R s m args below meth c D Bs nL cells slots Q sz kd rf M pc ls st := by
  intro H locs la hW hS hL
  subst hp
  subst hn
  exact lv_ldc X.1 X.2.1 X.2.2.2.1 (X.2.2.2.2.1 _ ko) hd (kk H locs la hW hS hL)
theorem G.iload_n (X : Cx p s m meth c args cc nL own ret D) {k : Fin 4} {a : Int} (pc' : Nat) (hd : decode cc pc = .ok (.iload_n k, 1)) (hp : pc + 1 = pc') (h : ls[(k : Nat)]? = some (some (vi a)))
    (kk : G p l e R s m args below meth c D Bs nL cells slots Q sz kd rf M pc' ls (vi a :: st)) : G p l e R s m args below meth c D Bs nL cells slots Q sz kd rf M pc ls st := by
  intro H locs la hW hS hL
  subst hp
  exact lv_iload_n X.1 X.2.1 hd rfl (hL.get h) (kk H locs la hW hS hL)
theorem G.iload (X : Cx p s m meth c args cc nL own ret D) {i : Nat} {a : Int} (pc' : Nat) (hd : decode cc pc = .ok (.iload i, 2)) (hp : pc + 2 = pc') (h : ls[i]? = some (some (vi a)))
    (kk : G p l e R s m args below meth c D Bs nL cells slots Q sz kd rf M pc' ls (vi a :: st)) : G p l e R s m args below meth c D Bs nL cells slots Q sz kd rf M pc ls st := by
  intro H locs la hW hS hL
  subst hp
  exact lv_iload X.1 X.2.1 hd (hL.get h) (kk H locs la hW hS hL)
theorem G.aload_n (X : Cx p s m meth c args cc nL own ret D) {k : Fin 4} {a : Nat} (pc' : Nat) (hd : decode cc pc = .ok (.aload_n k, 1)) (hp : pc + 1 = pc') (h : ls[(k : Nat)]? = some (some (.ref a)))
    (kk : G p l e R s m args below meth c D Bs nL cells slots Q sz kd rf M pc' ls (.ref a :: st)) : G p l e R s m args below meth c D Bs nL cells slots Q sz kd rf M pc ls st := by
  intro H locs la hW hS hL
  subst hp
  exact lv_aload_n X.1 X.2.1 hd rfl (hL.get h) (kk H locs la hW hS hL)
theorem G.aload (X : Cx p s m meth c args cc nL own ret D) {i : Nat} {a : Nat} (pc' : Nat) (hd : decode cc pc = .ok (.aload i, 2)) (hp : pc + 2 = pc') (h : ls[i]? = some (some (.ref a)))
    (kk : G p l e R s m args below meth c D Bs nL cells slots Q sz kd rf M pc' ls (.ref a :: st)) : G p l e R s m args below meth c D Bs nL cells slots Q sz kd rf M pc ls st := by
  intro H locs la hW hS hL
  subst hp
  exact lv_aload X.1 X.2.1 hd (hL.get h) (kk H locs la hW hS hL)
theorem G.aload_nN (X : Cx p s m meth c args cc nL own ret D) {k : Fin 4} (pc' : Nat) (hd : decode cc pc = .ok (.aload_n k, 1)) (hp : pc + 1 = pc') (h : ls[(k : Nat)]? = some (some .null))
    (kk : G p l e R s m args below meth c D Bs nL cells slots Q sz kd rf M pc' ls (.null :: st)) : G p l e R s m args below meth c D Bs nL cells slots Q sz kd rf M pc ls st := by
  intro H locs la hW hS hL
  subst hp
  exact lv_aload_nN X.1 X.2.1 hd rfl (hL.get h) (kk H locs la hW hS hL)
theorem G.aloadN (X : Cx p s m meth c args cc nL own ret D) {i : Nat} (pc' : Nat) (hd : decode cc pc = .ok (.aload i, 2)) (hp : pc + 2 = pc') (h : ls[i]? = some (some .null))
    (kk : G p l e R s m args below meth c D Bs nL cells slots Q sz kd rf M pc' ls (.null :: st)) : G p l e R s m args below meth c D Bs nL cells slots Q sz kd rf M pc ls st := by
  intro H locs la hW hS hL
  subst hp
  exact lv_aloadN X.1 X.2.1 hd (hL.get h) (kk H locs la hW hS hL)
theorem G.istore_n (X : Cx p s m meth c args cc nL own ret D) {k : Fin 4} {a : Int} {ls' : List (Option Value)} (pc' : Nat) (hd : decode cc pc = .ok (.istore_n k, 1)) (hp : pc + 1 = pc') (hn : (k : Nat) < nL) (hl : ls.set (k : Nat) (some (vi a)) = ls')
    (kk : G p l e R s m args below meth c D Bs nL cells slots Q sz kd rf M pc' ls' st) : G p l e R s m args below meth c D Bs nL cells slots Q sz kd rf M pc ls ((vi a) :: st) := by
  intro H locs la hW hS hL
  subst hp
  subst hl
  exact lv_istore_n X.1 X.2.1 hd rfl hL.1 hn rfl (fun la' hl' => kk H locs la' hW hS (hL.set rfl hl'))
theorem G.istore (X : Cx p s m meth c args cc nL own ret D) {i : Nat} {a : Int} {ls' : List (Option Value)} (pc' : Nat) (hd : decode cc pc = .ok (.istore i, 2)) (hp : pc + 2 = pc') (hn : i < nL) (hl : ls.set i (some (vi a)) = ls')
    (kk : G p l e R s m args below meth c D Bs nL cells slots Q sz kd rf M pc' ls' st) : G p l e R s m args below meth c D Bs nL cells slots Q sz kd rf M pc ls ((vi a) :: st) := by
  intro H locs la hW hS hL
  subst hp
  subst hl
  exact lv_istore X.1 X.2.1 hd hL.1 hn rfl (fun la' hl' => kk H locs la' hW hS (hL.set rfl hl'))
theorem G.astore_n (X : Cx p s m meth c args cc nL own ret D) {k : Fin 4} {a : Nat} {ls' : List (Option Value)} (pc' : Nat) (hd : decode cc pc = .ok (.astore_n k, 1)) (hp : pc + 1 = pc') (hn : (k : Nat) < nL) (hl : ls.set (k : Nat) (some (.ref a)) = ls')
    (kk : G p l e R s m args below meth c D Bs nL cells slots Q sz kd rf M pc' ls' st) : G p l e R s m args below meth c D Bs nL cells slots Q sz kd rf M pc ls ((.ref a) :: st) := by
  intro H locs la hW hS hL
  subst hp
  subst hl
  exact lv_astore_n X.1 X.2.1 hd rfl hL.1 hn rfl (fun la' hl' => kk H locs la' hW hS (hL.set rfl hl'))
theorem G.astore (X : Cx p s m meth c args cc nL own ret D) {i : Nat} {a : Nat} {ls' : List (Option Value)} (pc' : Nat) (hd : decode cc pc = .ok (.astore i, 2)) (hp : pc + 2 = pc') (hn : i < nL) (hl : ls.set i (some (.ref a)) = ls')
    (kk : G p l e R s m args below meth c D Bs nL cells slots Q sz kd rf M pc' ls' st) : G p l e R s m args below meth c D Bs nL cells slots Q sz kd rf M pc ls ((.ref a) :: st) := by
  intro H locs la hW hS hL
  subst hp
  subst hl
  exact lv_astore X.1 X.2.1 hd hL.1 hn rfl (fun la' hl' => kk H locs la' hW hS (hL.set rfl hl'))
theorem G.astore_nN (X : Cx p s m meth c args cc nL own ret D) {k : Fin 4} {ls' : List (Option Value)} (pc' : Nat) (hd : decode cc pc = .ok (.astore_n k, 1)) (hp : pc + 1 = pc') (hn : (k : Nat) < nL) (hl : ls.set (k : Nat) (some (.null)) = ls')
    (kk : G p l e R s m args below meth c D Bs nL cells slots Q sz kd rf M pc' ls' st) : G p l e R s m args below meth c D Bs nL cells slots Q sz kd rf M pc ls ((.null) :: st) := by
  intro H locs la hW hS hL
  subst hp
  subst hl
  exact lv_astore_nN X.1 X.2.1 hd rfl hL.1 hn rfl (fun la' hl' => kk H locs la' hW hS (hL.set rfl hl'))
theorem G.astoreN (X : Cx p s m meth c args cc nL own ret D) {i : Nat} {ls' : List (Option Value)} (pc' : Nat) (hd : decode cc pc = .ok (.astore i, 2)) (hp : pc + 2 = pc') (hn : i < nL) (hl : ls.set i (some (.null)) = ls')
    (kk : G p l e R s m args below meth c D Bs nL cells slots Q sz kd rf M pc' ls' st) : G p l e R s m args below meth c D Bs nL cells slots Q sz kd rf M pc ls ((.null) :: st) := by
  intro H locs la hW hS hL
  subst hp
  subst hl
  exact lv_astoreN X.1 X.2.1 hd hL.1 hn rfl (fun la' hl' => kk H locs la' hW hS (hL.set rfl hl'))
theorem G.iinc (X : Cx p s m meth c args cc nL own ret D) {i : Nat} {n a : Int} {ls' : List (Option Value)} (pc' : Nat) (hd : decode cc pc = .ok (.iinc i n, 3)) (hp : pc + 3 = pc') (h : ls[i]? = some (some (vi a))) (hn : i < nL) (hl : ls.set i (some (vi (a + n))) = ls')
    (kk : G p l e R s m args below meth c D Bs nL cells slots Q sz kd rf M pc' ls' st) : G p l e R s m args below meth c D Bs nL cells slots Q sz kd rf M pc ls st := by
  intro H locs la hW hS hL
  subst hp
  subst hl
  obtain ⟨k, hk⟩ := List.getElem?_of_mem (lvl_in (k := 0) h)
  refine lv_iinc (k := k) (v := Int32.ofInt (a + n)) X.1 X.2.1 hd hL.1 (by rw [hk, Nat.zero_add]; rfl) (by rw [Int32.ofInt_add]) hn rfl (fun la' hl' => kk H locs la' hW hS (hL.set (v := vi (a + n)) rfl hl'))
theorem G.dup (X : Cx p s m meth c args cc nL own ret D) {v : Value} (pc' : Nat) (hd : decode cc pc = .ok (.dup, 1)) (hp : pc + 1 = pc') (hc : v.category = 1)
    (kk : G p l e R s m args below meth c D Bs nL cells slots Q sz kd rf M pc' ls (v :: v :: st)) : G p l e R s m args below meth c D Bs nL cells slots Q sz kd rf M pc ls (v :: st) := by
  intro H locs la hW hS hL
  subst hp
  exact lv_dup X.1 X.2.1 hd hc (kk H locs la hW hS hL)
theorem G.pop (X : Cx p s m meth c args cc nL own ret D) {v : Value} (pc' : Nat) (hd : decode cc pc = .ok (.pop, 1)) (hp : pc + 1 = pc') (hc : v.category = 1)
    (kk : G p l e R s m args below meth c D Bs nL cells slots Q sz kd rf M pc' ls st) : G p l e R s m args below meth c D Bs nL cells slots Q sz kd rf M pc ls (v :: st) := by
  intro H locs la hW hS hL
  subst hp
  exact lv_pop X.1 X.2.1 hd hc (kk H locs la hW hS hL)
theorem G.dup2 (X : Cx p s m meth c args cc nL own ret D) {v w : Value} (pc' : Nat) (hd : decode cc pc = .ok (.dup2, 1)) (hp : pc + 1 = pc') (hc : v.category = 1) (hc2 : w.category = 1)
    (kk : G p l e R s m args below meth c D Bs nL cells slots Q sz kd rf M pc' ls (v :: w :: v :: w :: st)) : G p l e R s m args below meth c D Bs nL cells slots Q sz kd rf M pc ls (v :: w :: st) := by
  intro H locs la hW hS hL
  subst hp
  exact lv_dup2_11 X.1 X.2.1 hd hc hc2 (kk H locs la hW hS hL)
theorem G.null (X : Cx p s m meth c args cc nL own ret D) (pc' : Nat) (hd : decode cc pc = .ok (.aconst_null, 1)) (hp : pc + 1 = pc')
    (kk : G p l e R s m args below meth c D Bs nL cells slots Q sz kd rf M pc' ls (.null :: st)) : G p l e R s m args below meth c D Bs nL cells slots Q sz kd rf M pc ls st := by
  intro H locs la hW hS hL
  subst hp
  exact lv_null X.1 X.2.1 hd (kk H locs la hW hS hL)
theorem G.iadd (X : Cx p s m meth c args cc nL own ret D) {a b : Int} (pc' : Nat) (hd : decode cc pc = .ok (.iadd, 1)) (hp : pc + 1 = pc')
    (kk : G p l e R s m args below meth c D Bs nL cells slots Q sz kd rf M pc' ls (vi (a + b) :: st)) : G p l e R s m args below meth c D Bs nL cells slots Q sz kd rf M pc ls (vi b :: vi a :: st) := by
  intro H locs la hW hS hL
  subst hp
  refine lv_iadd X.1 X.2.1 hd ?_
  rw [vi_add]
  exact kk H locs la hW hS hL
theorem G.isub (X : Cx p s m meth c args cc nL own ret D) {a b : Int} (pc' : Nat) (hd : decode cc pc = .ok (.isub, 1)) (hp : pc + 1 = pc')
    (kk : G p l e R s m args below meth c D Bs nL cells slots Q sz kd rf M pc' ls (vi (a - b) :: st)) : G p l e R s m args below meth c D Bs nL cells slots Q sz kd rf M pc ls (vi b :: vi a :: st) := by
  intro H locs la hW hS hL
  subst hp
  refine lv_isub X.1 X.2.1 hd ?_
  rw [vi_sub]
  exact kk H locs la hW hS hL
theorem G.imul (X : Cx p s m meth c args cc nL own ret D) {a b : Int} (pc' : Nat) (hd : decode cc pc = .ok (.imul, 1)) (hp : pc + 1 = pc')
    (kk : G p l e R s m args below meth c D Bs nL cells slots Q sz kd rf M pc' ls (vi (a * b) :: st)) : G p l e R s m args below meth c D Bs nL cells slots Q sz kd rf M pc ls (vi b :: vi a :: st) := by
  intro H locs la hW hS hL
  subst hp
  refine lv_imul X.1 X.2.1 hd ?_
  rw [vi_mul]
  exact kk H locs la hW hS hL
theorem G.ineg (X : Cx p s m meth c args cc nL own ret D) {a : Int} (pc' : Nat) (hd : decode cc pc = .ok (.ineg, 1)) (hp : pc + 1 = pc')
    (kk : G p l e R s m args below meth c D Bs nL cells slots Q sz kd rf M pc' ls (vi (-a) :: st)) : G p l e R s m args below meth c D Bs nL cells slots Q sz kd rf M pc ls (vi a :: st) := by
  intro H locs la hW hS hL
  subst hp
  refine lv_ineg X.1 X.2.1 hd ?_
  have h0 := kk H locs la hW hS hL
  unfold vi at h0
  rw [Int32.ofInt_neg] at h0
  first | exact h0 | (rw [Int32.neg_eq_zero_sub] at h0; exact h0) | simpa using h0
theorem G.idiv (X : Cx p s m meth c args cc nL own ret D) {a b : Nat} (pc' : Nat) (hd : decode cc pc = .ok (.idiv, 1)) (hp : pc + 1 = pc') (ha : a < 2147483648) (hb : b < 2147483648) (h0 : 0 < b)
    (kk : G p l e R s m args below meth c D Bs nL cells slots Q sz kd rf M pc' ls (vi ((a / b : Nat) : Int) :: st)) : G p l e R s m args below meth c D Bs nL cells slots Q sz kd rf M pc ls (vi (b : Int) :: vi (a : Int) :: st) := by
  intro H locs la hW hS hL
  subst hp
  refine lv_idiv X.1 X.2.1 hd ?_ ?_
  · rw [oI_nat, oI_0]
    intro h
    have := (oI_eq (a := (b : Int)) (b := 0) (by omega) (by omega)).mp (by rw [oI_nat]; exact h)
    omega
  · rw [oI_nat, oI_nat, pk_div ha h0 hb, ← oI_nat]
    exact kk H locs la hW hS hL
theorem G.irem (X : Cx p s m meth c args cc nL own ret D) {a b : Nat} (pc' : Nat) (hd : decode cc pc = .ok (.irem, 1)) (hp : pc + 1 = pc') (ha : a < 2147483648) (hb : b < 2147483648) (h0 : 0 < b)
    (kk : G p l e R s m args below meth c D Bs nL cells slots Q sz kd rf M pc' ls (vi ((a % b : Nat) : Int) :: st)) : G p l e R s m args below meth c D Bs nL cells slots Q sz kd rf M pc ls (vi (b : Int) :: vi (a : Int) :: st) := by
  intro H locs la hW hS hL
  subst hp
  refine lv_irem X.1 X.2.1 hd ?_ ?_
  · rw [oI_nat, oI_0]
    intro h
    have := (oI_eq (a := (b : Int)) (b := 0) (by omega) (by omega)).mp (by rw [oI_nat]; exact h)
    omega
  · rw [oI_nat, oI_nat, pk_rem ha h0 hb, ← oI_nat]
    exact kk H locs la hW hS hL
theorem G.icmp_eq (X : Cx p s m meth c args cc nL own ret D) {a b off : Int} (tgt pc' : Nat) (hd : decode cc pc = .ok (.if_icmp .eq off, 3)) (ht : (pc : Int) + off = (tgt : Int)) (hp : pc + 3 = pc') (ra : -2147483648 ≤ a ∧ a ≤ 2147483647) (rb : -2147483648 ≤ b ∧ b ≤ 2147483647)
    (kt : a = b → G p l e R s m args below meth c D Bs nL cells slots Q sz kd rf M tgt ls st) (kf : ¬ (a = b) → G p l e R s m args below meth c D Bs nL cells slots Q sz kd rf M pc' ls st) : G p l e R s m args below meth c D Bs nL cells slots Q sz kd rf M pc ls (vi b :: vi a :: st) := by
  intro H locs la hW hS hL
  subst hp
  exact lv_icmp_eq X.1 X.2.1 hd ht (fun h => kt ((oI_eq ra rb).mp h) H locs la hW hS hL) (fun h => kf (fun q => h ((oI_eq ra rb).mpr q)) H locs la hW hS hL)
theorem G.icmp_ne (X : Cx p s m meth c args cc nL own ret D) {a b off : Int} (tgt pc' : Nat) (hd : decode cc pc = .ok (.if_icmp .ne off, 3)) (ht : (pc : Int) + off = (tgt : Int)) (hp : pc + 3 = pc') (ra : -2147483648 ≤ a ∧ a ≤ 2147483647) (rb : -2147483648 ≤ b ∧ b ≤ 2147483647)
    (kt : a ≠ b → G p l e R s m args below meth c D Bs nL cells slots Q sz kd rf M tgt ls st) (kf : ¬ (a ≠ b) → G p l e R s m args below meth c D Bs nL cells slots Q sz kd rf M pc' ls st) : G p l e R s m args below meth c D Bs nL cells slots Q sz kd rf M pc ls (vi b :: vi a :: st) := by
  intro H locs la hW hS hL
  subst hp
  exact lv_icmp_ne X.1 X.2.1 hd ht (fun h => kt ((not_congr (oI_eq ra rb)).mp h) H locs la hW hS hL) (fun h => kf (fun q => q ((oI_eq ra rb).mp h)) H locs la hW hS hL)
theorem G.icmp_lt (X : Cx p s m meth c args cc nL own ret D) {a b off : Int} (tgt pc' : Nat) (hd : decode cc pc = .ok (.if_icmp .lt off, 3)) (ht : (pc : Int) + off = (tgt : Int)) (hp : pc + 3 = pc') (ra : -2147483648 ≤ a ∧ a ≤ 2147483647) (rb : -2147483648 ≤ b ∧ b ≤ 2147483647)
    (kt : a < b → G p l e R s m args below meth c D Bs nL cells slots Q sz kd rf M tgt ls st) (kf : ¬ (a < b) → G p l e R s m args below meth c D Bs nL cells slots Q sz kd rf M pc' ls st) : G p l e R s m args below meth c D Bs nL cells slots Q sz kd rf M pc ls (vi b :: vi a :: st) := by
  intro H locs la hW hS hL
  subst hp
  exact lv_icmp_lt X.1 X.2.1 hd ht (fun h => kt ((oI_lt ra rb).mp h) H locs la hW hS hL) (fun h => kf (fun q => h ((oI_lt ra rb).mpr q)) H locs la hW hS hL)
theorem G.icmp_ge (X : Cx p s m meth c args cc nL own ret D) {a b off : Int} (tgt pc' : Nat) (hd : decode cc pc = .ok (.if_icmp .ge off, 3)) (ht : (pc : Int) + off = (tgt : Int)) (hp : pc + 3 = pc') (ra : -2147483648 ≤ a ∧ a ≤ 2147483647) (rb : -2147483648 ≤ b ∧ b ≤ 2147483647)
    (kt : b ≤ a → G p l e R s m args below meth c D Bs nL cells slots Q sz kd rf M tgt ls st) (kf : ¬ (b ≤ a) → G p l e R s m args below meth c D Bs nL cells slots Q sz kd rf M pc' ls st) : G p l e R s m args below meth c D Bs nL cells slots Q sz kd rf M pc ls (vi b :: vi a :: st) := by
  intro H locs la hW hS hL
  subst hp
  exact lv_icmp_ge X.1 X.2.1 hd ht (fun h => kt ((oI_le rb ra).mp h) H locs la hW hS hL) (fun h => kf (fun q => h ((oI_le rb ra).mpr q)) H locs la hW hS hL)
theorem G.icmp_gt (X : Cx p s m meth c args cc nL own ret D) {a b off : Int} (tgt pc' : Nat) (hd : decode cc pc = .ok (.if_icmp .gt off, 3)) (ht : (pc : Int) + off = (tgt : Int)) (hp : pc + 3 = pc') (ra : -2147483648 ≤ a ∧ a ≤ 2147483647) (rb : -2147483648 ≤ b ∧ b ≤ 2147483647)
    (kt : b < a → G p l e R s m args below meth c D Bs nL cells slots Q sz kd rf M tgt ls st) (kf : ¬ (b < a) → G p l e R s m args below meth c D Bs nL cells slots Q sz kd rf M pc' ls st) : G p l e R s m args below meth c D Bs nL cells slots Q sz kd rf M pc ls (vi b :: vi a :: st) := by
  intro H locs la hW hS hL
  subst hp
  exact lv_icmp_gt X.1 X.2.1 hd ht (fun h => kt ((oI_lt rb ra).mp h) H locs la hW hS hL) (fun h => kf (fun q => h ((oI_lt rb ra).mpr q)) H locs la hW hS hL)
theorem G.icmp_le (X : Cx p s m meth c args cc nL own ret D) {a b off : Int} (tgt pc' : Nat) (hd : decode cc pc = .ok (.if_icmp .le off, 3)) (ht : (pc : Int) + off = (tgt : Int)) (hp : pc + 3 = pc') (ra : -2147483648 ≤ a ∧ a ≤ 2147483647) (rb : -2147483648 ≤ b ∧ b ≤ 2147483647)
    (kt : a ≤ b → G p l e R s m args below meth c D Bs nL cells slots Q sz kd rf M tgt ls st) (kf : ¬ (a ≤ b) → G p l e R s m args below meth c D Bs nL cells slots Q sz kd rf M pc' ls st) : G p l e R s m args below meth c D Bs nL cells slots Q sz kd rf M pc ls (vi b :: vi a :: st) := by
  intro H locs la hW hS hL
  subst hp
  exact lv_icmp_le X.1 X.2.1 hd ht (fun h => kt ((oI_le ra rb).mp h) H locs la hW hS hL) (fun h => kf (fun q => h ((oI_le ra rb).mpr q)) H locs la hW hS hL)
theorem G.if_eq (X : Cx p s m meth c args cc nL own ret D) {a off : Int} (tgt pc' : Nat) (hd : decode cc pc = .ok (.ifCond .eq off, 3)) (ht : (pc : Int) + off = (tgt : Int)) (hp : pc + 3 = pc') (ra : -2147483648 ≤ a ∧ a ≤ 2147483647)
    (kt : a = 0 → G p l e R s m args below meth c D Bs nL cells slots Q sz kd rf M tgt ls st) (kf : ¬ (a = 0) → G p l e R s m args below meth c D Bs nL cells slots Q sz kd rf M pc' ls st) : G p l e R s m args below meth c D Bs nL cells slots Q sz kd rf M pc ls (vi a :: st) := by
  intro H locs la hW hS hL
  subst hp
  have Z0 : -2147483648 ≤ (0 : Int) ∧ (0 : Int) ≤ 2147483647 := by omega
  exact lv_if_eq X.1 X.2.1 hd ht (fun h => kt ((oI_eq ra Z0).mp (by rw [← oI_0]; exact h)) H locs la hW hS hL) (fun h => kf (fun q => h (by rw [oI_0]; exact (oI_eq ra Z0).mpr q)) H locs la hW hS hL)
theorem G.if_ne (X : Cx p s m meth c args cc nL own ret D) {a off : Int} (tgt pc' : Nat) (hd : decode cc pc = .ok (.ifCond .ne off, 3)) (ht : (pc : Int) + off = (tgt : Int)) (hp : pc + 3 = pc') (ra : -2147483648 ≤ a ∧ a ≤ 2147483647)
    (kt : a ≠ 0 → G p l e R s m args below meth c D Bs nL cells slots Q sz kd rf M tgt ls st) (kf : ¬ (a ≠ 0) → G p l e R s m args below meth c D Bs nL cells slots Q sz kd rf M pc' ls st) : G p l e R s m args below meth c D Bs nL cells slots Q sz kd rf M pc ls (vi a :: st) := by
  intro H locs la hW hS hL
  subst hp
  have Z0 : -2147483648 ≤ (0 : Int) ∧ (0 : Int) ≤ 2147483647 := by omega
  exact lv_if_ne X.1 X.2.1 hd ht (fun h => kt ((not_congr (oI_eq ra Z0)).mp (by rw [← oI_0]; exact h)) H locs la hW hS hL) (fun h => kf (fun q => q ((oI_eq ra Z0).mp (by rw [← oI_0]; exact h))) H locs la hW hS hL)
theorem G.if_lt (X : Cx p s m meth c args cc nL own ret D) {a off : Int} (tgt pc' : Nat) (hd : decode cc pc = .ok (.ifCond .lt off, 3)) (ht : (pc : Int) + off = (tgt : Int)) (hp : pc + 3 = pc') (ra : -2147483648 ≤ a ∧ a ≤ 2147483647)
    (kt : a < 0 → G p l e R s m args below meth c D Bs nL cells slots Q sz kd rf M tgt ls st) (kf : ¬ (a < 0) → G p l e R s m args below meth c D Bs nL cells slots Q sz kd rf M pc' ls st) : G p l e R s m args below meth c D Bs nL cells slots Q sz kd rf M pc ls (vi a :: st) := by
  intro H locs la hW hS hL
  subst hp
  have Z0 : -2147483648 ≤ (0 : Int) ∧ (0 : Int) ≤ 2147483647 := by omega
  exact lv_if_lt X.1 X.2.1 hd ht (fun h => kt ((oI_lt ra Z0).mp (by rw [← oI_0]; exact h)) H locs la hW hS hL) (fun h => kf (fun q => h (by rw [oI_0]; exact (oI_lt ra Z0).mpr q)) H locs la hW hS hL)
theorem G.if_ge (X : Cx p s m meth c args cc nL own ret D) {a off : Int} (tgt pc' : Nat) (hd : decode cc pc = .ok (.ifCond .ge off, 3)) (ht : (pc : Int) + off = (tgt : Int)) (hp : pc + 3 = pc') (ra : -2147483648 ≤ a ∧ a ≤ 2147483647)
    (kt : 0 ≤ a → G p l e R s m args below meth c D Bs nL cells slots Q sz kd rf M tgt ls st) (kf : ¬ (0 ≤ a) → G p l e R s m args below meth c D Bs nL cells slots Q sz kd rf M pc' ls st) : G p l e R s m args below meth c D Bs nL cells slots Q sz kd rf M pc ls (vi a :: st) := by
  intro H locs la hW hS hL
  subst hp
  have Z0 : -2147483648 ≤ (0 : Int) ∧ (0 : Int) ≤ 2147483647 := by omega
  exact lv_if_ge X.1 X.2.1 hd ht (fun h => kt ((oI_le Z0 ra).mp (by rw [← oI_0]; exact h)) H locs la hW hS hL) (fun h => kf (fun q => h (by rw [oI_0]; exact (oI_le Z0 ra).mpr q)) H locs la hW hS hL)
theorem G.if_gt (X : Cx p s m meth c args cc nL own ret D) {a off : Int} (tgt pc' : Nat) (hd : decode cc pc = .ok (.ifCond .gt off, 3)) (ht : (pc : Int) + off = (tgt : Int)) (hp : pc + 3 = pc') (ra : -2147483648 ≤ a ∧ a ≤ 2147483647)
    (kt : 0 < a → G p l e R s m args below meth c D Bs nL cells slots Q sz kd rf M tgt ls st) (kf : ¬ (0 < a) → G p l e R s m args below meth c D Bs nL cells slots Q sz kd rf M pc' ls st) : G p l e R s m args below meth c D Bs nL cells slots Q sz kd rf M pc ls (vi a :: st) := by
  intro H locs la hW hS hL
  subst hp
  have Z0 : -2147483648 ≤ (0 : Int) ∧ (0 : Int) ≤ 2147483647 := by omega
  exact lv_if_gt X.1 X.2.1 hd ht (fun h => kt ((oI_lt Z0 ra).mp (by rw [← oI_0]; exact h)) H locs la hW hS hL) (fun h => kf (fun q => h (by rw [oI_0]; exact (oI_lt Z0 ra).mpr q)) H locs la hW hS hL)
theorem G.if_le (X : Cx p s m meth c args cc nL own ret D) {a off : Int} (tgt pc' : Nat) (hd : decode cc pc = .ok (.ifCond .le off, 3)) (ht : (pc : Int) + off = (tgt : Int)) (hp : pc + 3 = pc') (ra : -2147483648 ≤ a ∧ a ≤ 2147483647)
    (kt : a ≤ 0 → G p l e R s m args below meth c D Bs nL cells slots Q sz kd rf M tgt ls st) (kf : ¬ (a ≤ 0) → G p l e R s m args below meth c D Bs nL cells slots Q sz kd rf M pc' ls st) : G p l e R s m args below meth c D Bs nL cells slots Q sz kd rf M pc ls (vi a :: st) := by
  intro H locs la hW hS hL
  subst hp
  have Z0 : -2147483648 ≤ (0 : Int) ∧ (0 : Int) ≤ 2147483647 := by omega
  exact lv_if_le X.1 X.2.1 hd ht (fun h => kt ((oI_le ra Z0).mp (by rw [← oI_0]; exact h)) H locs la hW hS hL) (fun h => kf (fun q => h (by rw [oI_0]; exact (oI_le ra Z0).mpr q)) H locs la hW hS hL)
/-- a condition as a number -/
def bi (q : Prop) [Decidable q] : Int := if q then 1 else 0
theorem bi_t {q : Prop} [Decidable q] (h : q) : bi q = 1 := if_pos h
theorem bi_f {q : Prop} [Decidable q] (h : ¬ q) : bi q = 0 := if_neg h
theorem bi_01 (q : Prop) [Decidable q] : bi q = 0 ∨ bi q = 1 := by
  by_cases h : q
  · exact Or.inr (bi_t h)
  · exact Or.inl (bi_f h)
theorem G.ifb_eq (X : Cx p s m meth c args cc nL own ret D) {q : Prop} [Decidable q] {off : Int} (tgt pc' : Nat) (hd : decode cc pc = .ok (.ifCond .eq off, 3)) (ht : (pc : Int) + off = (tgt : Int)) (hp : pc + 3 = pc')
    (kt : ¬ q → G p l e R s m args below meth c D Bs nL cells slots Q sz kd rf M tgt ls st) (kf : q → G p l e R s m args below meth c D Bs nL cells slots Q sz kd rf M pc' ls st) : G p l e R s m args below meth c D Bs nL cells slots Q sz kd rf M pc ls (vi (bi q) :: st) := by
  refine G.if_eq X tgt pc' hd ht hp (by rcases bi_01 q with h | h <;> omega) (fun h => kt ?_) (fun h => kf ?_)
  · by_cases hq : q <;> simp_all [bi]
  · by_cases hq : q <;> simp_all [bi]
theorem G.ifb_ne (X : Cx p s m meth c args cc nL own ret D) {q : Prop} [Decidable q] {off : Int} (tgt pc' : Nat) (hd : decode cc pc = .ok (.ifCond .ne off, 3)) (ht : (pc : Int) + off = (tgt : Int)) (hp : pc + 3 = pc')
    (kt : q → G p l e R s m args below meth c D Bs nL cells slots Q sz kd rf M tgt ls st) (kf : ¬ q → G p l e R s m args below meth c D Bs nL cells slots Q sz kd rf M pc' ls st) : G p l e R s m args below meth c D Bs nL cells slots Q sz kd rf M pc ls (vi (bi q) :: st) := by
  refine G.if_ne X tgt pc' hd ht hp (by rcases bi_01 q with h | h <;> omega) (fun h => kt ?_) (fun h => kf ?_)
  · by_cases hq : q <;> simp_all [bi]
  · by_cases hq : q <;> simp_all [bi]
theorem G.goto (X : Cx p s m meth c args cc nL own ret D) {off : Int} (tgt : Nat) (hd : decode cc pc = .ok (.goto off, 3)) (ht : (pc : Int) + off = (tgt : Int)) (kk : G p l e R s m args below meth c D Bs nL cells slots Q sz kd rf M tgt ls st) : G p l e R s m args below meth c D Bs nL cells slots Q sz kd rf M pc ls st := fun H locs la hW hS hL => lv_goto X.1 X.2.1 hd ht (kk H locs la hW hS hL)
theorem G.ifnonnull (X : Cx p s m meth c args cc nL own ret D) {a : Nat} {off : Int} (tgt : Nat) (hd : decode cc pc = .ok (.ifnonnull off, 3)) (ht : (pc : Int) + off = (tgt : Int)) (kk : G p l e R s m args below meth c D Bs nL cells slots Q sz kd rf M tgt ls st) : G p l e R s m args below meth c D Bs nL cells slots Q sz kd rf M pc ls (.ref a :: st) := fun H locs la hW hS hL => lv_ifnonnull X.1 X.2.1 hd ht (kk H locs la hW hS hL)
theorem G.ifnullN (X : Cx p s m meth c args cc nL own ret D) {off : Int} (tgt : Nat) (hd : decode cc pc = .ok (.ifnull off, 3)) (ht : (pc : Int) + off = (tgt : Int)) (kk : G p l e R s m args below meth c D Bs nL cells slots Q sz kd rf M tgt ls st) : G p l e R s m args below meth c D Bs nL cells slots Q sz kd rf M pc ls (.null :: st) := fun H locs la hW hS hL => lv_ifnullN X.1 X.2.1 hd ht (kk H locs la hW hS hL)
theorem G.ifnull (X : Cx p s m meth c args cc nL own ret D) {a : Nat} {off : Int} (pc' : Nat) (hd : decode cc pc = .ok (.ifnull off, 3)) (hp : pc + 3 = pc')
    (kk : G p l e R s m args below meth c D Bs nL cells slots Q sz kd rf M pc' ls st) : G p l e R s m args below meth c D Bs nL cells slots Q sz kd rf M pc ls (.ref a :: st) := by
  intro H locs la hW hS hL
  subst hp
  exact lv_ifnull X.1 X.2.1 hd (kk H locs la hW hS hL)
theorem G.ifnonnullN (X : Cx p s m meth c args cc nL own ret D) {off : Int} (pc' : Nat) (hd : decode cc pc = .ok (.ifnonnull off, 3)) (hp : pc + 3 = pc')
    (kk : G p l e R s m args below meth c D Bs nL cells slots Q sz kd rf M pc' ls st) : G p l e R s m args below meth c D Bs nL cells slots Q sz kd rf M pc ls (.null :: st) := by
  intro H locs la hW hS hL
  subst hp
  exact lv_ifnonnullN X.1 X.2.1 hd (kk H locs la hW hS hL)
theorem G.tableIn (X : Cx p s m meth c args cc nL own ret D) {dflt lo hi : Int} {offs : Array Int} {len : Nat} {a off : Int} (tgt : Nat) (hd : decode cc pc = .ok (.tableswitch dflt lo hi offs, len)) (ra : -2147483648 ≤ a ∧ a ≤ 2147483647) (h1 : lo ≤ a) (h2 : a ≤ hi) (ho : offs[(a - lo).toNat]? = some off) (ht : (pc : Int) + off = (tgt : Int)) (kk : G p l e R s m args below meth c D Bs nL cells slots Q sz kd rf M tgt ls st) : G p l e R s m args below meth c D Bs nL cells slots Q sz kd rf M pc ls (vi a :: st) := fun H locs la hW hS hL => lv_tableIn X.1 X.2.1 hd (by rw [oI_t ra]; omega) (by rw [oI_t ra]; omega) (by rw [oI_t ra]; exact ho) ht (kk H locs la hW hS hL)
theorem G.tableOut (X : Cx p s m meth c args cc nL own ret D) {dflt lo hi : Int} {offs : Array Int} {len : Nat} {a : Int} (tgt : Nat) (hd : decode cc pc = .ok (.tableswitch dflt lo hi offs, len)) (ra : -2147483648 ≤ a ∧ a ≤ 2147483647) (h1 : a < lo ∨ hi < a) (ht : (pc : Int) + dflt = (tgt : Int)) (kk : G p l e R s m args below meth c D Bs nL cells slots Q sz kd rf M tgt ls st) : G p l e R s m args below meth c D Bs nL cells slots Q sz kd rf M pc ls (vi a :: st) := fun H locs la hW hS hL => lv_tableOut X.1 X.2.1 hd (by rw [oI_t ra]; exact h1) ht (kk H locs la hW hS hL)
theorem G.lookup (X : Cx p s m meth c args cc nL own ret D) {dflt : Int} {ps : Array (Int × Int)} {len : Nat} {a off : Int} (tgt : Nat) (hd : decode cc pc = .ok (.lookupswitch dflt ps, len)) (hq : (ps.toList.zip (ps.toList.drop 1)).all (fun (a, next) => a.1 < next.1) = true) (ra : -2147483648 ≤ a ∧ a ≤ 2147483647) (ho : Op.lookupswitch.offset ps.toList dflt a = off) (ht : (pc : Int) + off = (tgt : Int)) (kk : G p l e R s m args below meth c D Bs nL cells slots Q sz kd rf M tgt ls st) : G p l e R s m args below meth c D Bs nL cells slots Q sz kd rf M pc ls (vi a :: st) := fun H locs la hW hS hL => lv_lookup X.1 X.2.1 hd hq (by rw [oI_t ra]; exact ho) ht (kk H locs la hW hS hL)
end GR
end
section
section GH
variable {p : Program} {l : Launch} {e : Env} {R : Room} {s : State} {m : MethodId} {args : Array Value} {below : List Frame} {meth : Method} {c : Code} {D : xD} {Bs nL cells slots : Nat} {Q : State → Prop} {sz : Nat} {kd : xKd} {rf : xRf} {M : xM} {cc : ByteArray} {own : String} {ret : Option FieldType} {pc : Nat} {ls : List (Option Value)} {st : List Value}
theorem vw_laid : ∀ (ci : Nat) (C : String) (T : u_T) (N : Nat), vwCl[ci]? = some (C, T, N) → (∀ w ∈ u_ws C T N, w ∈ gw) ∧ (∀ a, a < N → ∀ b, b < N → a ≠ b → (T a).2.1 ≠ (T b).2.1) ∧ ∃ ty : Nat → FieldType, ∀ k, k < N → parseFieldDescriptor (T k).2.2.1 = some (ty k) := by
  intro ci C T N h
  match ci, h with
  | 0, h => cases h; exact ⟨laid0, nmX0, tyX0, tyX0_ok⟩
  | 1, h => cases h; exact ⟨laid1, nmX1, tyX1, tyX1_ok⟩
  | 2, h => cases h; exact ⟨laid2, nmX2, tyX2, tyX2_ok⟩
  | 3, h => cases h; exact ⟨laid3, nmX3, tyX3, tyX3_ok⟩
  | 4, h => cases h; exact ⟨laid4, nmX4, tyX4, tyX4_ok⟩
  | 5, h => cases h; exact ⟨laid5, nmX5, tyX5, tyX5_ok⟩
  | 6, h => cases h; exact ⟨laid6, nmX6, tyX6, tyX6_ok⟩
  | n + 7, h => simp [vwCl] at h
/-- the cell of an object: its slots -/
theorem xCell.obj {ci : Nat} {a : Nat} {V : Nat → Value} {H : Heap} {C : String} {T : u_T} {N : Nat} (h : xCell D (.inl ci) a V H) (hc : vwCl[ci]? = some (C, T, N)) : t_OB a (D.1.1 ci) N (D.1.2 ci) H V := by
  obtain ⟨r, hr, ho⟩ := h
  cases hr.symm.trans hc
  exact ho
theorem G.getf (X : Cx p s m meth c args cc nL own ret D) {idx ci k a : Nat} {v : Value} (fl : FL own idx ci k) (pc' : Nat) (hd : decode cc pc = .ok (.getfield idx, 3)) (hp : pc + 3 = pc') (hk : kd a = some (.inl ci)) (hv : xV rf M a k = v)
    (kk : G p l e R s m args below meth c D Bs nL cells slots Q sz kd rf M pc' ls (v :: st)) : G p l e R s m args below meth c D Bs nL cells slots Q sz kd rf M pc ls (.ref a :: st) := by
  intro H locs la hW hS hL
  subst hp
  subst hv
  have kk := kk H locs la hW hS hL
  obtain ⟨hx, hb, hml, hown, hts, hK, -, -⟩ := X
  obtain ⟨C, T, N, hc, hkN, hC, hlink⟩ := fl
  obtain ⟨cell, q1, q2, q3, q4⟩ := (hW.2.2.1 a _ hk).2.obj hc
  obtain ⟨hSl, hfc, kC, hkC, hkind⟩ := hK.1.1 ci _ hc
  obtain ⟨cf, kf, fi, f, hi, hsl⟩ := hSl k hkN
  have hfacts := u_facts hfc hkC (u_lays hts (vw_laid ci C T N hc).1 hkN) hi
  dsimp only at hi
  rw [hC] at hi
  rcases hlink with hlink | ⟨host, hlink⟩
  · exact W.getf hx hb hown (hts _ hlink) hi hfacts.1 q1 (by rw [q3]; exact fun h => by cases h) (by rw [hsl]; exact q4 k hkN) rfl rfl hd kk
  · exact va_Wgetf hx hb hown (va_Nw.use rfl (hK.2.1 _ hlink)) hi hfacts.1 q1 (by rw [q3]; exact fun h => by cases h) (by rw [hsl]; exact q4 k hkN) rfl rfl hd kk
theorem G.getI (X : Cx p s m meth c args cc nL own ret D) {idx ci k a : Nat} (fl : FL own idx ci k) (pc' : Nat) (hd : decode cc pc = .ok (.getfield idx, 3)) (hp : pc + 3 = pc') (hk : kd a = some (.inl ci)) (hr : rf a k = none)
    (kk : G p l e R s m args below meth c D Bs nL cells slots Q sz kd rf M pc' ls (vi (M a k) :: st)) : G p l e R s m args below meth c D Bs nL cells slots Q sz kd rf M pc ls (.ref a :: st) := G.getf X fl pc' hd hp hk (xV_int hr) kk
theorem G.getR (X : Cx p s m meth c args cc nL own ret D) {idx ci k a : Nat} {v : Value} (fl : FL own idx ci k) (pc' : Nat) (hd : decode cc pc = .ok (.getfield idx, 3)) (hp : pc + 3 = pc') (hk : kd a = some (.inl ci)) (hr : rf a k = some v)
    (kk : G p l e R s m args below meth c D Bs nL cells slots Q sz kd rf M pc' ls (v :: st)) : G p l e R s m args below meth c D Bs nL cells slots Q sz kd rf M pc ls (.ref a :: st) := G.getf X fl pc' hd hp hk (xV_ref hr) kk
/-- a store into an object's slot -/
theorem Wd.putO {H H1 : Heap} {a ci k : Nat} {C : String} {T : u_T} {N : Nat} {v : Value} {rf' : xRf} {M' : xM} {cell : Cell} (hW : Wd D Bs sz kd rf M H) (hk : kd a = some (.inl ci)) (hc : vwCl[ci]? = some (C, T, N)) (hkN : k < N) (hap : ∀ x y, x < N → y < N → x ≠ y → (D.1.2 ci) x ≠ (D.1.2 ci) y)
    (q1 : H[a]? = some cell) (e1 : H1[a]? = some (cell.setSlot ((D.1.2 ci) k) v)) (e2 : H1.size = H.size) (e3 : ∀ q, q ≠ a → H1[q]? = H[q]?) (hsame : xV rf' M' a = updV (xV rf M a) k v) (hoth : ∀ b, b ≠ a → xV rf' M' b = xV rf M b) (hok : xOk kd M') : Wd D Bs sz kd rf' M' H1 := by
  refine ⟨e2.trans hW.1, hW.2.1, fun b kb hb => ⟨(hW.2.2.1 b kb hb).1, ?_⟩, hok⟩
  by_cases hba : b = a
  · subst hba
    cases hk.symm.trans hb
    obtain ⟨cell', z1, z2, z3, z4⟩ := (hW.2.2.1 b _ hk).2.obj hc
    cases q1.symm.trans z1
    exact ⟨_, hc, _, e1, z2, z3, by rw [hsame]; exact t_set z4 hap hkN v⟩
  · rw [hoth b hba]
    exact (hW.2.2.1 b kb hb).2.kept (e3 b hba)
theorem G.put0 (X : Cx p s m meth c args cc nL own ret D) {idx ci k a : Nat} {v : Value} {rf' : xRf} {M' : xM} {ty : FieldType} (fl : FL own idx ci k) (pc' : Nat) (hd : decode cc pc = .ok (.putfield idx, 3)) (hp : pc + 3 = pc') (hk : kd a = some (.inl ci)) (hfin : ∀ C T N, vwCl[ci]? = some (C, T, N) → (T k).2.2.2 = false ∧ parseFieldDescriptor (T k).2.2.1 = some ty) (hn : narrow ty v = v) (hfit : fits ty v = true)
    (hsame : xV rf' M' a = updV (xV rf M a) k v) (hoth : ∀ b, b ≠ a → xV rf' M' b = xV rf M b) (hok : xOk kd M → xOk kd M')
    (kk : G p l e R s m args below meth c D Bs nL cells slots Q sz kd rf' M' pc' ls st) : G p l e R s m args below meth c D Bs nL cells slots Q sz kd rf M pc ls (v :: .ref a :: st) := by
  intro H locs la hW hS hL
  subst hp
  obtain ⟨hx, hb, hml, hown, hts, hK, -, -⟩ := X
  obtain ⟨C, T, N, hc, hkN, hC, hlink⟩ := fl
  obtain ⟨hlaid, hnm, ty0, hty0⟩ := vw_laid ci C T N hc
  obtain ⟨cell, q1, q2, q3, q4⟩ := (hW.2.2.1 a _ hk).2.obj hc
  have hap := va_apart (own := own) hts hlaid ty0 hty0 hnm hK.1 hc
  obtain ⟨hSl, hfc, kC, hkC, hkind⟩ := hK.1.1 ci _ hc
  obtain ⟨cf, kf, fi, f, hi, hsl⟩ := hSl k hkN
  obtain ⟨hf1, hf2⟩ := hfin C T N hc
  have hlay := hts _ (hlaid _ (u_in_lay hkN))
  unfold u_lay at hlay
  rw [if_neg (by rw [hf1]; decide)] at hlay
  have hst := (u_facts hfc hkC (u_lays hts hlaid hkN) hi).1
  have h6 := u_store hfc hkC hkind hlay hi hf2 hn hfit
  have fin : ∀ H1 : Heap, H1[a]? = some (cell.setSlot f.slot v) → H1.size = H.size → (∀ q, q ≠ a → H1[q]? = H[q]?) → W p l e R s m args below meth c H1 (locs ++ [⟨a, f.slot⟩]) cells slots Q (F0 m (pc + 3) la st) := by
    intro H1 e1 e2 e3
    rw [hsl] at e1
    exact kk H1 _ la (hW.putO hk hc hkN hap q1 e1 e2 e3 hsame hoth (hok hW.2.2.2)) (hS.put e2 e3 (hW.2.2.1 a _ hk).1) hL
  dsimp only at hi
  rw [hC] at hi
  rcases hlink with hlink | ⟨host, hlink⟩
  · exact W.putK hx hb (f := f) ⟨hown, hts _ hlink, ⟨_, _, _, hi⟩, hst⟩ (by rw [q2]; exact h6) q1 q3 (by rw [hsl]; exact k2_hasslot (q4 k hkN)) rfl rfl hd fin
  · exact va_WputK hx hb (f := f) hown (va_Nw.use rfl (hK.2.1 _ hlink)) hi hst (by rw [q2]; exact h6) q1 q3 (by rw [hsl]; exact k2_hasslot (q4 k hkN)) rfl rfl hd fin
def FI (ci k : Nat) (ty : FieldType) (fin : Bool) : Prop := ∀ C T N, vwCl[ci]? = some (C, T, N) → (T k).2.2.2 = fin ∧ parseFieldDescriptor (T k).2.2.1 = some ty
theorem FI.of {ci k : Nat} {ty : FieldType} {fin : Bool} {C : String} {T : u_T} {N : Nat} (hc : vwCl[ci]? = some (C, T, N)) (h : (T k).2.2.2 = fin ∧ parseFieldDescriptor (T k).2.2.1 = some ty) : FI ci k ty fin := fun C' T' N' hc' => by
  cases hc.symm.trans hc'
  exact h
theorem xOk.put {a ci k : Nat} {x : Int} (hk : kd a = some (.inl ci)) (hz : isZ ci k = true → x = 0 ∨ x = 1) (h : xOk kd M) : xOk kd (mu M a k x) := by
  refine ⟨fun b cj j hb hj => ?_, fun b n j hb => ?_⟩
  · by_cases hh : b = a ∧ j = k
    · obtain ⟨rfl, rfl⟩ := hh
      cases hk.symm.trans hb
      rw [mu_same]
      exact hz hj
    · rw [mu_ne (by by_cases h1 : b = a; exact Or.inr (fun h2 => hh ⟨h1, h2⟩); exact Or.inl h1)]
      exact h.1 b cj j hb hj
  · rw [mu_ne (Or.inl (fun e => by subst e; cases hk.symm.trans hb))]
    exact h.2 b n j hb
theorem G.putI (X : Cx p s m meth c args cc nL own ret D) {idx ci k a : Nat} {x : Int} (fl : FL own idx ci k) (fi : FI ci k .int false) (hz : isZ ci k = false) (pc' : Nat) (hd : decode cc pc = .ok (.putfield idx, 3)) (hp : pc + 3 = pc') (hk : kd a = some (.inl ci)) (hr : rf a k = none)
    (kk : G p l e R s m args below meth c D Bs nL cells slots Q sz kd rf (mu M a k x) pc' ls st) : G p l e R s m args below meth c D Bs nL cells slots Q sz kd rf M pc ls (vi x :: .ref a :: st) :=
  G.put0 X fl pc' hd hp hk fi rfl rfl (xV_mu hr) (fun b hb => xV_mu_ne hb) (xOk.put hk (fun h => by rw [hz] at h; cases h)) kk
theorem nar01 {x : Int} (h : x = 0 ∨ x = 1) : narrow .boolean (vi x) = vi x ∧ fits .boolean (vi x) = true := by
  rcases h with h | h <;> subst h <;> decide
theorem G.putZ (X : Cx p s m meth c args cc nL own ret D) {idx ci k a : Nat} {x : Int} (fl : FL own idx ci k) (fi : FI ci k .boolean false) (pc' : Nat) (hd : decode cc pc = .ok (.putfield idx, 3)) (hp : pc + 3 = pc') (hk : kd a = some (.inl ci)) (hr : rf a k = none) (hx01 : x = 0 ∨ x = 1)
    (kk : G p l e R s m args below meth c D Bs nL cells slots Q sz kd rf (mu M a k x) pc' ls st) : G p l e R s m args below meth c D Bs nL cells slots Q sz kd rf M pc ls (vi x :: .ref a :: st) :=
  G.put0 X fl pc' hd hp hk fi (nar01 hx01).1 (nar01 hx01).2 (xV_mu hr) (fun b hb => xV_mu_ne hb) (xOk.put hk (fun _ => hx01)) kk
theorem xT_at {t : Nat} (h : t < 5) : (xT D)[t]? = some (D.2 t, aty t) := by
  match t, h with
  | 0, _ => rfl
  | 1, _ => rfl
  | 2, _ => rfl
  | 3, _ => rfl
  | 4, _ => rfl
theorem oI_in {i n : Nat} (h : i < n) (hn : n ≤ 2147483647) : ¬ (Int32.ofInt (i : Int) < 0 ∨ n ≤ (Int32.ofInt (i : Int)).toNatClampNeg) := by
  rw [oI_nat]
  exact nI_in h (by omega)
theorem oI_cl {i : Nat} (h : i ≤ 2147483647) : (Int32.ofInt (i : Int)).toNatClampNeg = i := by
  rw [oI_nat]
  exact nI_clamp (by omega)
theorem Wd.arr {H : Heap} {a t n : Nat} (hW : Wd D Bs sz kd rf M H) (hk : kd a = some (.inr (t, n))) : H[a]? = some (arrV (D.2 t) n (xV rf M a)) := (hW.2.2.1 a _ hk).2
theorem G.iald (X : Cx p s m meth c args cc nL own ret D) {a n i : Nat} {j : Int} (pc' : Nat) (hd : decode cc pc = .ok (.iaload, 1)) (hp : pc + 1 = pc') (hk : kd a = some (.inr (0, n))) (hr : rf a i = none) (hj : j = (i : Int)) (hi : i < n) (hn : n ≤ 2147483647)
    (kk : G p l e R s m args below meth c D Bs nL cells slots Q sz kd rf M pc' ls (vi (M a i) :: st)) : G p l e R s m args below meth c D Bs nL cells slots Q sz kd rf M pc ls (vi j :: .ref a :: st) := by
  intro H locs la hW hS hL
  subst hp
  subst hj
  have kk := kk H locs la hW hS hL
  obtain ⟨hx, hb, hml, hown, hts, hK, -, -⟩ := X
  exact W.iald hx hb (hW.arr hk) ((hK.1.2 0 _ (xT_at (by omega))).1 n _) (fun q => by cases q) (by rw [arrV_size]; exact oI_in hi hn) (by rw [oI_cl (by omega), arrV_read _ _ hi, xV_int hr]) rfl rfl hd kk
theorem G.cald (X : Cx p s m meth c args cc nL own ret D) {a n i : Nat} {j : Int} (pc' : Nat) (hd : decode cc pc = .ok (.caload, 1)) (hp : pc + 1 = pc') (hk : kd a = some (.inr (1, n))) (hr : rf a i = none) (hj : j = (i : Int)) (hi : i < n) (hn : n ≤ 2147483647)
    (kk : G p l e R s m args below meth c D Bs nL cells slots Q sz kd rf M pc' ls (vi (M a i) :: st)) : G p l e R s m args below meth c D Bs nL cells slots Q sz kd rf M pc ls (vi j :: .ref a :: st) := by
  intro H locs la hW hS hL
  subst hp
  subst hj
  have kk := kk H locs la hW hS hL
  obtain ⟨hx, hb, hml, hown, hts, hK, -, -⟩ := X
  exact W.cald hx hb (hW.arr hk) ((hK.1.2 1 _ (xT_at (by omega))).1 n _) (fun q => by cases q) (by rw [arrV_size]; exact oI_in hi hn) (by rw [oI_cl (by omega), arrV_read _ _ hi, xV_int hr]) rfl rfl hd kk
theorem G.aald (X : Cx p s m meth c args cc nL own ret D) {a t n i : Nat} {j : Int} {v : Value} (pc' : Nat) (hd : decode cc pc = .ok (.aaload, 1)) (hp : pc + 1 = pc') (hk : kd a = some (.inr (t, n))) (ht : 2 ≤ t ∧ t < 5) (hr : rf a i = some v) (hj : j = (i : Int)) (hi : i < n) (hn : n ≤ 2147483647)
    (kk : G p l e R s m args below meth c D Bs nL cells slots Q sz kd rf M pc' ls (v :: st)) : G p l e R s m args below meth c D Bs nL cells slots Q sz kd rf M pc ls (vi j :: .ref a :: st) := by
  intro H locs la hW hS hL
  subst hp
  subst hj
  have kk := kk H locs la hW hS hL
  obtain ⟨hx, hb, hml, hown, hts, hK, -, -⟩ := X
  have hty : (aty t).isReference = true := by
    match t, ht with
    | 2, _ => rfl
    | 3, _ => rfl
    | 4, _ => rfl
  exact W.aald (ty := aty t) hx hb (hW.arr hk) ((hK.1.2 t _ (xT_at ht.2)).1 n _) hty (fun q => by cases q) (by rw [arrV_size]; exact oI_in hi hn) (by rw [oI_cl (by omega), arrV_read _ _ hi, xV_ref hr]) rfl rfl hd kk
/-- a store into an array -/
theorem Wd.putA {H H1 : Heap} {a t n k : Nat} {v : Value} {rf' : xRf} {M' : xM} (hW : Wd D Bs sz kd rf M H) (hk : kd a = some (.inr (t, n))) (e1 : H1[a]? = some ((arrV (D.2 t) n (xV rf M a)).setSlot k v)) (e2 : H1.size = H.size) (e3 : ∀ q, q ≠ a → H1[q]? = H[q]?) (hsame : xV rf' M' a = updV (xV rf M a) k v) (hoth : ∀ b, b ≠ a → xV rf' M' b = xV rf M b) (hok : xOk kd M') : Wd D Bs sz kd rf' M' H1 := by
  refine ⟨e2.trans hW.1, hW.2.1, fun b kb hb => ⟨(hW.2.2.1 b kb hb).1, ?_⟩, hok⟩
  by_cases hba : b = a
  · subst hba
    cases hk.symm.trans hb
    show H1[b]? = some (arrV (D.2 t) n (xV rf' M' b))
    rw [e1, arrV_store, hsame]
  · rw [hoth b hba]
    exact (hW.2.2.1 b kb hb).2.kept (e3 b hba)
theorem xOk.putA {a t n k : Nat} {x : Int} (hk : kd a = some (.inr (t, n))) (hz : t = 1 → 0 ≤ x ∧ x < 65536) (h : xOk kd M) : xOk kd (mu M a k x) := by
  refine ⟨fun b cj j hb hj => ?_, fun b n2 j hb => ?_⟩
  · rw [mu_ne (Or.inl (fun e => by subst e; cases hk.symm.trans hb))]
    exact h.1 b cj j hb hj
  · by_cases hh : b = a ∧ j = k
    · obtain ⟨rfl, rfl⟩ := hh
      cases hk.symm.trans hb
      rw [mu_same]
      exact hz rfl
    · rw [mu_ne (by by_cases h1 : b = a; exact Or.inr (fun h2 => hh ⟨h1, h2⟩); exact Or.inl h1)]
      exact h.2 b n2 j hb
theorem G.iast (X : Cx p s m meth c args cc nL own ret D) {a n i : Nat} {j x : Int} (pc' : Nat) (hd : decode cc pc = .ok (.iastore, 1)) (hp : pc + 1 = pc') (hk : kd a = some (.inr (0, n))) (hr : rf a i = none) (hj : j = (i : Int)) (hi : i < n) (hn : n ≤ 2147483647)
    (kk : G p l e R s m args below meth c D Bs nL cells slots Q sz kd rf (mu M a i x) pc' ls st) : G p l e R s m args below meth c D Bs nL cells slots Q sz kd rf M pc ls (vi x :: vi j :: .ref a :: st) := by
  intro H locs la hW hS hL
  subst hp
  subst hj
  obtain ⟨hx, hb, hml, hown, hts, hK, -, -⟩ := X
  refine W.iast hx hb (hW.arr hk) ((hK.1.2 0 _ (xT_at (by omega))).1 n _) (fun q => by cases q) (by rw [arrV_size]; exact oI_in hi hn) rfl rfl hd (fun H1 e1 e2 e3 => ?_)
  rw [oI_cl (by omega)] at e1
  exact kk H1 _ la (hW.putA (v := vi x) hk e1 e2 e3 (xV_mu hr) (fun b hb => xV_mu_ne hb) (xOk.putA hk (fun h => by cases h) hW.2.2.2)) (hS.put e2 e3 (hW.2.2.1 a _ hk).1) hL
theorem charN {x : Int} (hc : 0 ≤ x ∧ x < 65536) : narrow .char (.int (Int32.ofInt x)) = vi x := by
  obtain ⟨n, rfl⟩ : ∃ n : Nat, x = (n : Int) := ⟨x.toNat, by omega⟩
  rw [vi, oI_nat]
  exact (pk_charN (by omega)).1
theorem G.cast (X : Cx p s m meth c args cc nL own ret D) {a n i : Nat} {j x : Int} (pc' : Nat) (hd : decode cc pc = .ok (.castore, 1)) (hp : pc + 1 = pc') (hk : kd a = some (.inr (1, n))) (hr : rf a i = none) (hj : j = (i : Int)) (hi : i < n) (hn : n ≤ 2147483647) (hc : 0 ≤ x ∧ x < 65536)
    (kk : G p l e R s m args below meth c D Bs nL cells slots Q sz kd rf (mu M a i x) pc' ls st) : G p l e R s m args below meth c D Bs nL cells slots Q sz kd rf M pc ls (vi x :: vi j :: .ref a :: st) := by
  intro H locs la hW hS hL
  subst hp
  subst hj
  obtain ⟨hx, hb, hml, hown, hts, hK, -, -⟩ := X
  refine W.cast hx hb (hW.arr hk) ((hK.1.2 1 _ (xT_at (by omega))).1 n _) (fun q => by cases q) (by rw [arrV_size]; exact oI_in hi hn) rfl rfl hd (fun H1 e1 e2 e3 => ?_)
  rw [oI_cl (by omega)] at e1
  exact kk H1 _ la (hW.putA (v := vi x) hk (by rw [e1, charN hc]) e2 e3 (xV_mu hr) (fun b hb => xV_mu_ne hb) (xOk.putA hk (fun h => hc) hW.2.2.2)) (hS.put e2 e3 (hW.2.2.1 a _ hk).1) hL
theorem G.call0 {post : xPost} {a : Array Value} {rest st0 : List Value} {mc ms pc' : Nat} (hp : pc + 3 = pc')
    (hr : ∀ (H : Heap) (locs : List Loc) (la : Array Slot), Wd D Bs sz kd rf M H → la.size = nL → va_Run p l e R s m args below meth c H locs cells slots mc ms (F0 m pc la st0) rest (xQ D Bs post a) (fun q => Bs ≤ q))
    (kk : ∀ (v : Option Value) (sz' : Nat) (kd' : xKd) (rf' : xRf) (M' : xM), post v sz' kd' rf' M' → G p l e R s m args below meth c D Bs nL (cells + mc) (slots + ms) Q sz' kd' rf' M' pc' ls (v.toList ++ rest)) : G p l e R s m args below meth c D Bs nL cells slots Q sz kd rf M pc ls st0 := by
  intro H locs la hW hS hL T hT X
  obtain ⟨v, st₀, t, T', L, h0, X', hL', e1, e2, ⟨⟨v2, sz', kd', rf', M', hv, hp2, hW'⟩, hz, hk⟩, st⟩ := hr H locs la hW hL.1.1 T hT X
  cases hv
  rw [h0] at hz hk
  subst hp
  obtain ⟨t2, a1, b1⟩ := kk v sz' kd' rf' M' hp2 T'.heap (locs ++ L) la (by rw [e1]; exact hW') ⟨Nat.le_trans hS.1 (by rw [e1]; exact hz), fun q h1 h2 => by rw [e1, hk q (Nat.lt_of_lt_of_le h1 hS.1) h2]; exact hS.2.1 q h1 h2, fun q hq => by
    rcases List.mem_append.mp hq with h | h
    · exact hS.2.2 q h
    · exact hL' q h⟩ hL T' rfl X'
  exact ⟨t2, st t2 a1, b1⟩
theorem xR_of {y : MethodName} {np : Nat} (h : (parseMethodDescriptor y.desc).map (fun d => d.parameters.length) = some np) : ∀ sig, parseMethodDescriptor y.desc = some sig → np = sig.parameters.length := fun sig hs => by
  rw [hs] at h
  exact (Option.some.inj h).symm
theorem G.callV (X : Cx p s m meth c args cc nL own ret D) {idx np nn b : Nat} {y : MethodName} {b2 : ByteArray} {ret2 : Option FieldType} {rm : Room} {As rest : List Value} {post : xPost} {mc ms : Nat} (ml : ML own idx y) (yv : YV y b2 nn ret2 np) (pc' : Nat) (hd : decode cc pc = .ok (.invokevirtual idx, 3)) (hp : pc + 3 = pc') (ct : Ctr l D Bs y b2 nn ret2 rm (.ref b :: As) sz kd rf M mc ms post)
    (hk : ∃ ci r, kd b = some (.inl ci) ∧ vwCl[ci]? = some r ∧ r.1 = y.cls) (hn : As.length = np) (hR : rm.frames + 1 ≤ R.frames ∧ 8 + (nn + 11) + rm.locals ≤ R.locals) (hm : rm.cells = mc ∧ rm.slots = ms) (hf : cells + mc ≤ R.cells ∧ slots + ms ≤ R.slots) (hw : (rest.map fun v => v.category).sum ≤ 8)
    (kk : ∀ (v : Option Value) (sz' : Nat) (kd' : xKd) (rf' : xRf) (M' : xM), post v sz' kd' rf' M' → G p l e R s m args below meth c D Bs nL (cells + mc) (slots + ms) Q sz' kd' rf' M' pc' ls (v.toList ++ rest)) : G p l e R s m args below meth c D Bs nL cells slots Q sz kd rf M pc ls (As.reverse ++ .ref b :: rest) := by
  refine G.call0 hp (a := (Value.ref b :: As).toArray) (fun H locs la hW hs => ?_) kk
  obtain ⟨hx, hb, hml, hown, hts, hK, -, -⟩ := X
  have S : CallFix p m c cc nL s args gw own := ⟨hx, hb, hml, hown, hts⟩
  obtain ⟨⟨hcode, hini, hy, hpd, -⟩, hinst, hsel⟩ := yv
  have hG := gw_cons hcode
  have hlen := xR_of hpd
  have hpre : PreV s H y.cls b (xP D Bs (.ref b :: As) sz kd rf M) As := by
    refine ⟨xP_blind, ?_, fun U hU hWm => ⟨rfl, by rw [hU]; exact hW, hK.warm hWm⟩⟩
    obtain ⟨ci, r, h1, h2, h3⟩ := hk
    obtain ⟨C, T, N⟩ := r
    obtain ⟨cell, q1, q2, q3, -⟩ := (hW.2.2.1 b _ h1).2.obj h2
    exact ⟨cell, q1, by rw [q3]; rfl, by rw [← h3, q2]; exact (hK.1.1 ci _ h2).2.1⟩
  rcases ml with ml | ⟨host, ml⟩
  · exact va_runV S ct ⟨⟨hm.1, hm.2, hR.1, hR.2, pay_in hts hG, List.mem_cons_self, hts _ hcode, hts _ hini, hy, hlen, hts _ ml⟩, hts _ hinst, hts _ hsel⟩ hpre rfl hn hs rfl (lv_room hw) hd hf
  · exact va_runVN S ct ⟨⟨⟨hm.1, hm.2, hR.1, hR.2, pay_in hts hG, List.mem_cons_self⟩, hts _ hcode, hts _ hini, hy, hlen, va_Nw.use rfl (hK.2.1 _ ml)⟩, hts _ hinst, hts _ hsel⟩ hpre rfl hn hs rfl (lv_room hw) hd hf
theorem G.callS (X : Cx p s m meth c args cc nL own ret D) {idx np nn : Nat} {y : MethodName} {b2 : ByteArray} {ret2 : Option FieldType} {rm : Room} {As rest : List Value} {post : xPost} {mc ms : Nat} (ml : ML own idx y) (yv : YS y b2 nn ret2 np) (pc' : Nat) (hd : decode cc pc = .ok (.invokestatic idx, 3)) (hp : pc + 3 = pc') (ct : Ctr l D Bs y b2 nn ret2 rm As sz kd rf M mc ms post)
    (hn : As.length = np) (hR : rm.frames + 1 ≤ R.frames ∧ 8 + (nn + 11) + rm.locals ≤ R.locals) (hm : rm.cells = mc ∧ rm.slots = ms) (hf : cells + mc ≤ R.cells ∧ slots + ms ≤ R.slots) (hw : (rest.map fun v => v.category).sum ≤ 8)
    (kk : ∀ (v : Option Value) (sz' : Nat) (kd' : xKd) (rf' : xRf) (M' : xM), post v sz' kd' rf' M' → G p l e R s m args below meth c D Bs nL (cells + mc) (slots + ms) Q sz' kd' rf' M' pc' ls (v.toList ++ rest)) : G p l e R s m args below meth c D Bs nL cells slots Q sz kd rf M pc ls (As.reverse ++ rest) := by
  refine G.call0 hp (a := As.toArray) (fun H locs la hW hs => ?_) kk
  obtain ⟨hx, hb, hml, hown, hts, hK, -, -⟩ := X
  have S : CallFix p m c cc nL s args gw own := ⟨hx, hb, hml, hown, hts⟩
  obtain ⟨⟨hcode, hini, hy, hpd, -⟩, hstt⟩ := yv
  have hG := gw_cons hcode
  have hlen := xR_of hpd
  have hpre : PreS s H (xP D Bs As sz kd rf M) As := ⟨xP_blind, fun U hU hWm => ⟨rfl, by rw [hU]; exact hW, hK.warm hWm⟩⟩
  rcases ml with ml | ⟨host, ml⟩
  · exact va_runS S ct ⟨⟨hm.1, hm.2, hR.1, hR.2, pay_in hts hG, List.mem_cons_self, hts _ hcode, hts _ hini, hy, hlen, hts _ ml⟩, hts _ hstt⟩ hpre rfl hn hs rfl (lv_room hw) hd hf
  · exact va_runSN S ct ⟨⟨⟨hm.1, hm.2, hR.1, hR.2, pay_in hts hG, List.mem_cons_self⟩, hts _ hcode, hts _ hini, hy, hlen, va_Nw.use rfl (hK.2.1 _ ml)⟩, hts _ hstt, trivial⟩ hpre rfl hn hs rfl (lv_room hw) hd hf
theorem G.callI (X : Cx p s m meth c args cc nL own ret D) {idx np nn b : Nat} {y : MethodName} {b2 : ByteArray} {rm : Room} {As rest : List Value} {post : xPost} {mc ms : Nat} (ml : ML own idx y) (yv : YI y b2 nn np) (pc' : Nat) (hd : decode cc pc = .ok (.invokespecial idx, 3)) (hp : pc + 3 = pc') (ct : Ctr l D Bs y b2 nn none rm (.ref b :: As) sz kd rf M mc ms post)
    (hn : As.length = np) (hR : rm.frames + 1 ≤ R.frames ∧ 8 + (nn + 11) + rm.locals ≤ R.locals) (hm : rm.cells = mc ∧ rm.slots = ms) (hf : cells + mc ≤ R.cells ∧ slots + ms ≤ R.slots) (hw : (rest.map fun v => v.category).sum ≤ 8)
    (kk : ∀ (v : Option Value) (sz' : Nat) (kd' : xKd) (rf' : xRf) (M' : xM), post v sz' kd' rf' M' → G p l e R s m args below meth c D Bs nL (cells + mc) (slots + ms) Q sz' kd' rf' M' pc' ls (v.toList ++ rest)) : G p l e R s m args below meth c D Bs nL cells slots Q sz kd rf M pc ls (As.reverse ++ .ref b :: rest) := by
  refine G.call0 hp (a := (Value.ref b :: As).toArray) (fun H locs la hW hs => ?_) kk
  obtain ⟨hx, hb, hml, hown, hts, hK, -, -⟩ := X
  have S : CallFix p m c cc nL s args gw own := ⟨hx, hb, hml, hown, hts⟩
  obtain ⟨⟨hcode, hini, hy, hpd, -⟩, hinst, hin⟩ := yv
  have hG := gw_cons hcode
  have hlen := xR_of hpd
  have hpre : PreS s H (xP D Bs (.ref b :: As) sz kd rf M) (.ref b :: As) := ⟨xP_blind, fun U hU hWm => ⟨rfl, by rw [hU]; exact hW, hK.warm hWm⟩⟩
  rcases ml with ml | ⟨host, ml⟩
  · exact va_runI S ct ⟨⟨hm.1, hm.2, hR.1, hR.2, pay_in hts hG, List.mem_cons_self, hts _ hcode, hts _ hini, hy, hlen, hts _ ml⟩, hin, hts _ hinst⟩ hpre rfl hn hs rfl (lv_room hw) hd hf
  · exact va_runIN S ct ⟨⟨⟨hm.1, hm.2, hR.1, hR.2, pay_in hts hG, List.mem_cons_self⟩, hts _ hcode, hts _ hini, hy, hlen, va_Nw.use rfl (hK.2.1 _ ml)⟩, hin, hts _ hinst⟩ hpre rfl hn hs rfl (lv_room hw) hd hf
theorem G.vI0 (X : Cx p s m meth c args cc nL own ret D) {idx nn b d : Nat} {y : MethodName} {b2 : ByteArray} {ret2 : Option FieldType} {rest : List Value} {P : Int → xM → Prop} (ml : ML own idx y) (yv : YV y b2 nn ret2 0) (pc' : Nat) (hd : decode cc pc = .ok (.invokevirtual idx, 3)) (hp : pc + 3 = pc') (ct : CtI l D Bs y b2 nn ret2 d [.ref b] sz kd rf M P) (hk : ∃ ci r, kd b = some (.inl ci) ∧ vwCl[ci]? = some r ∧ r.1 = y.cls) (hR : d + 1 ≤ R.frames ∧ 8 + (nn + 11) + 40 * d ≤ R.locals) (hf : cells ≤ R.cells ∧ slots ≤ R.slots) (hw : (rest.map fun v => v.category).sum ≤ 8)
    (kk : ∀ (r : Int) (M' : xM), P r M' → G p l e R s m args below meth c D Bs nL cells slots Q sz kd rf M' pc' ls (vi r :: rest)) : G p l e R s m args below meth c D Bs nL cells slots Q sz kd rf M pc ls (.ref b :: rest) :=
  G.callV X (As := []) (rest := rest) ml yv pc' hd hp ct hk rfl hR ⟨rfl, rfl⟩ hf hw (fun v sz' kd' rf' M' h => by obtain ⟨rfl, rfl, rfl, r, rfl, h⟩ := h; exact kk r M' h)
theorem G.vI1 (X : Cx p s m meth c args cc nL own ret D) {idx nn b d : Nat} {y : MethodName} {b2 : ByteArray} {ret2 : Option FieldType} {rest : List Value} {x1 : Value} {P : Int → xM → Prop} (ml : ML own idx y) (yv : YV y b2 nn ret2 1) (pc' : Nat) (hd : decode cc pc = .ok (.invokevirtual idx, 3)) (hp : pc + 3 = pc') (ct : CtI l D Bs y b2 nn ret2 d [.ref b, x1] sz kd rf M P) (hk : ∃ ci r, kd b = some (.inl ci) ∧ vwCl[ci]? = some r ∧ r.1 = y.cls) (hR : d + 1 ≤ R.frames ∧ 8 + (nn + 11) + 40 * d ≤ R.locals) (hf : cells ≤ R.cells ∧ slots ≤ R.slots) (hw : (rest.map fun v => v.category).sum ≤ 8)
    (kk : ∀ (r : Int) (M' : xM), P r M' → G p l e R s m args below meth c D Bs nL cells slots Q sz kd rf M' pc' ls (vi r :: rest)) : G p l e R s m args below meth c D Bs nL cells slots Q sz kd rf M pc ls (x1 :: .ref b :: rest) :=
  G.callV X (As := [x1]) (rest := rest) ml yv pc' hd hp ct hk rfl hR ⟨rfl, rfl⟩ hf hw (fun v sz' kd' rf' M' h => by obtain ⟨rfl, rfl, rfl, r, rfl, h⟩ := h; exact kk r M' h)
theorem G.vI2 (X : Cx p s m meth c args cc nL own ret D) {idx nn b d : Nat} {y : MethodName} {b2 : ByteArray} {ret2 : Option FieldType} {rest : List Value} {x1 x2 : Value} {P : Int → xM → Prop} (ml : ML own idx y) (yv : YV y b2 nn ret2 2) (pc' : Nat) (hd : decode cc pc = .ok (.invokevirtual idx, 3)) (hp : pc + 3 = pc') (ct : CtI l D Bs y b2 nn ret2 d [.ref b, x1, x2] sz kd rf M P) (hk : ∃ ci r, kd b = some (.inl ci) ∧ vwCl[ci]? = some r ∧ r.1 = y.cls) (hR : d + 1 ≤ R.frames ∧ 8 + (nn + 11) + 40 * d ≤ R.locals) (hf : cells ≤ R.cells ∧ slots ≤ R.slots) (hw : (rest.map fun v => v.category).sum ≤ 8)
    (kk : ∀ (r : Int) (M' : xM), P r M' → G p l e R s m args below meth c D Bs nL cells slots Q sz kd rf M' pc' ls (vi r :: rest)) : G p l e R s m args below meth c D Bs nL cells slots Q sz kd rf M pc ls (x2 :: x1 :: .ref b :: rest) :=
  G.callV X (As := [x1, x2]) (rest := rest) ml yv pc' hd hp ct hk rfl hR ⟨rfl, rfl⟩ hf hw (fun v sz' kd' rf' M' h => by obtain ⟨rfl, rfl, rfl, r, rfl, h⟩ := h; exact kk r M' h)
theorem G.vI3 (X : Cx p s m meth c args cc nL own ret D) {idx nn b d : Nat} {y : MethodName} {b2 : ByteArray} {ret2 : Option FieldType} {rest : List Value} {x1 x2 x3 : Value} {P : Int → xM → Prop} (ml : ML own idx y) (yv : YV y b2 nn ret2 3) (pc' : Nat) (hd : decode cc pc = .ok (.invokevirtual idx, 3)) (hp : pc + 3 = pc') (ct : CtI l D Bs y b2 nn ret2 d [.ref b, x1, x2, x3] sz kd rf M P) (hk : ∃ ci r, kd b = some (.inl ci) ∧ vwCl[ci]? = some r ∧ r.1 = y.cls) (hR : d + 1 ≤ R.frames ∧ 8 + (nn + 11) + 40 * d ≤ R.locals) (hf : cells ≤ R.cells ∧ slots ≤ R.slots) (hw : (rest.map fun v => v.category).sum ≤ 8)
    (kk : ∀ (r : Int) (M' : xM), P r M' → G p l e R s m args below meth c D Bs nL cells slots Q sz kd rf M' pc' ls (vi r :: rest)) : G p l e R s m args below meth c D Bs nL cells slots Q sz kd rf M pc ls (x3 :: x2 :: x1 :: .ref b :: rest) :=
  G.callV X (As := [x1, x2, x3]) (rest := rest) ml yv pc' hd hp ct hk rfl hR ⟨rfl, rfl⟩ hf hw (fun v sz' kd' rf' M' h => by obtain ⟨rfl, rfl, rfl, r, rfl, h⟩ := h; exact kk r M' h)
theorem G.vI4 (X : Cx p s m meth c args cc nL own ret D) {idx nn b d : Nat} {y : MethodName} {b2 : ByteArray} {ret2 : Option FieldType} {rest : List Value} {x1 x2 x3 x4 : Value} {P : Int → xM → Prop} (ml : ML own idx y) (yv : YV y b2 nn ret2 4) (pc' : Nat) (hd : decode cc pc = .ok (.invokevirtual idx, 3)) (hp : pc + 3 = pc') (ct : CtI l D Bs y b2 nn ret2 d [.ref b, x1, x2, x3, x4] sz kd rf M P) (hk : ∃ ci r, kd b = some (.inl ci) ∧ vwCl[ci]? = some r ∧ r.1 = y.cls) (hR : d + 1 ≤ R.frames ∧ 8 + (nn + 11) + 40 * d ≤ R.locals) (hf : cells ≤ R.cells ∧ slots ≤ R.slots) (hw : (rest.map fun v => v.category).sum ≤ 8)
    (kk : ∀ (r : Int) (M' : xM), P r M' → G p l e R s m args below meth c D Bs nL cells slots Q sz kd rf M' pc' ls (vi r :: rest)) : G p l e R s m args below meth c D Bs nL cells slots Q sz kd rf M pc ls (x4 :: x3 :: x2 :: x1 :: .ref b :: rest) :=
  G.callV X (As := [x1, x2, x3, x4]) (rest := rest) ml yv pc' hd hp ct hk rfl hR ⟨rfl, rfl⟩ hf hw (fun v sz' kd' rf' M' h => by obtain ⟨rfl, rfl, rfl, r, rfl, h⟩ := h; exact kk r M' h)
theorem G.sI2 (X : Cx p s m meth c args cc nL own ret D) {idx nn d : Nat} {y : MethodName} {b2 : ByteArray} {ret2 : Option FieldType} {rest : List Value} {x1 x2 : Value} {P : Int → xM → Prop} (ml : ML own idx y) (yv : YS y b2 nn ret2 2) (pc' : Nat) (hd : decode cc pc = .ok (.invokestatic idx, 3)) (hp : pc + 3 = pc') (ct : CtI l D Bs y b2 nn ret2 d [x1, x2] sz kd rf M P) (hR : d + 1 ≤ R.frames ∧ 8 + (nn + 11) + 40 * d ≤ R.locals) (hf : cells ≤ R.cells ∧ slots ≤ R.slots) (hw : (rest.map fun v => v.category).sum ≤ 8)
    (kk : ∀ (r : Int) (M' : xM), P r M' → G p l e R s m args below meth c D Bs nL cells slots Q sz kd rf M' pc' ls (vi r :: rest)) : G p l e R s m args below meth c D Bs nL cells slots Q sz kd rf M pc ls (x2 :: x1 :: rest) :=
  G.callS X (As := [x1, x2]) (rest := rest) ml yv pc' hd hp ct rfl hR ⟨rfl, rfl⟩ hf hw (fun v sz' kd' rf' M' h => by obtain ⟨rfl, rfl, rfl, r, rfl, h⟩ := h; exact kk r M' h)
theorem G.sI3 (X : Cx p s m meth c args cc nL own ret D) {idx nn d : Nat} {y : MethodName} {b2 : ByteArray} {ret2 : Option FieldType} {rest : List Value} {x1 x2 x3 : Value} {P : Int → xM → Prop} (ml : ML own idx y) (yv : YS y b2 nn ret2 3) (pc' : Nat) (hd : decode cc pc = .ok (.invokestatic idx, 3)) (hp : pc + 3 = pc') (ct : CtI l D Bs y b2 nn ret2 d [x1, x2, x3] sz kd rf M P) (hR : d + 1 ≤ R.frames ∧ 8 + (nn + 11) + 40 * d ≤ R.locals) (hf : cells ≤ R.cells ∧ slots ≤ R.slots) (hw : (rest.map fun v => v.category).sum ≤ 8)
    (kk : ∀ (r : Int) (M' : xM), P r M' → G p l e R s m args below meth c D Bs nL cells slots Q sz kd rf M' pc' ls (vi r :: rest)) : G p l e R s m args below meth c D Bs nL cells slots Q sz kd rf M pc ls (x3 :: x2 :: x1 :: rest) :=
  G.callS X (As := [x1, x2, x3]) (rest := rest) ml yv pc' hd hp ct rfl hR ⟨rfl, rfl⟩ hf hw (fun v sz' kd' rf' M' h => by obtain ⟨rfl, rfl, rfl, r, rfl, h⟩ := h; exact kk r M' h)
theorem G.vV0 (X : Cx p s m meth c args cc nL own ret D) {idx nn b d : Nat} {y : MethodName} {b2 : ByteArray} {ret2 : Option FieldType} {rest : List Value} {P : xM → Prop} (ml : ML own idx y) (yv : YV y b2 nn ret2 0) (pc' : Nat) (hd : decode cc pc = .ok (.invokevirtual idx, 3)) (hp : pc + 3 = pc') (ct : CtV l D Bs y b2 nn ret2 d [.ref b] sz kd rf M P) (hk : ∃ ci r, kd b = some (.inl ci) ∧ vwCl[ci]? = some r ∧ r.1 = y.cls) (hR : d + 1 ≤ R.frames ∧ 8 + (nn + 11) + 40 * d ≤ R.locals) (hf : cells ≤ R.cells ∧ slots ≤ R.slots) (hw : (rest.map fun v => v.category).sum ≤ 8)
    (kk : ∀ M' : xM, P M' → G p l e R s m args below meth c D Bs nL cells slots Q sz kd rf M' pc' ls rest) : G p l e R s m args below meth c D Bs nL cells slots Q sz kd rf M pc ls (.ref b :: rest) :=
  G.callV X (As := []) (rest := rest) ml yv pc' hd hp ct hk rfl hR ⟨rfl, rfl⟩ hf hw (fun v sz' kd' rf' M' h => by obtain ⟨rfl, rfl, rfl, rfl, h⟩ := h; exact kk M' h)
theorem G.vV1 (X : Cx p s m meth c args cc nL own ret D) {idx nn b d : Nat} {y : MethodName} {b2 : ByteArray} {ret2 : Option FieldType} {rest : List Value} {x1 : Value} {P : xM → Prop} (ml : ML own idx y) (yv : YV y b2 nn ret2 1) (pc' : Nat) (hd : decode cc pc = .ok (.invokevirtual idx, 3)) (hp : pc + 3 = pc') (ct : CtV l D Bs y b2 nn ret2 d [.ref b, x1] sz kd rf M P) (hk : ∃ ci r, kd b = some (.inl ci) ∧ vwCl[ci]? = some r ∧ r.1 = y.cls) (hR : d + 1 ≤ R.frames ∧ 8 + (nn + 11) + 40 * d ≤ R.locals) (hf : cells ≤ R.cells ∧ slots ≤ R.slots) (hw : (rest.map fun v => v.category).sum ≤ 8)
    (kk : ∀ M' : xM, P M' → G p l e R s m args below meth c D Bs nL cells slots Q sz kd rf M' pc' ls rest) : G p l e R s m args below meth c D Bs nL cells slots Q sz kd rf M pc ls (x1 :: .ref b :: rest) :=
  G.callV X (As := [x1]) (rest := rest) ml yv pc' hd hp ct hk rfl hR ⟨rfl, rfl⟩ hf hw (fun v sz' kd' rf' M' h => by obtain ⟨rfl, rfl, rfl, rfl, h⟩ := h; exact kk M' h)
theorem G.vV2 (X : Cx p s m meth c args cc nL own ret D) {idx nn b d : Nat} {y : MethodName} {b2 : ByteArray} {ret2 : Option FieldType} {rest : List Value} {x1 x2 : Value} {P : xM → Prop} (ml : ML own idx y) (yv : YV y b2 nn ret2 2) (pc' : Nat) (hd : decode cc pc = .ok (.invokevirtual idx, 3)) (hp : pc + 3 = pc') (ct : CtV l D Bs y b2 nn ret2 d [.ref b, x1, x2] sz kd rf M P) (hk : ∃ ci r, kd b = some (.inl ci) ∧ vwCl[ci]? = some r ∧ r.1 = y.cls) (hR : d + 1 ≤ R.frames ∧ 8 + (nn + 11) + 40 * d ≤ R.locals) (hf : cells ≤ R.cells ∧ slots ≤ R.slots) (hw : (rest.map fun v => v.category).sum ≤ 8)
    (kk : ∀ M' : xM, P M' → G p l e R s m args below meth c D Bs nL cells slots Q sz kd rf M' pc' ls rest) : G p l e R s m args below meth c D Bs nL cells slots Q sz kd rf M pc ls (x2 :: x1 :: .ref b :: rest) :=
  G.callV X (As := [x1, x2]) (rest := rest) ml yv pc' hd hp ct hk rfl hR ⟨rfl, rfl⟩ hf hw (fun v sz' kd' rf' M' h => by obtain ⟨rfl, rfl, rfl, rfl, h⟩ := h; exact kk M' h)
theorem G.vV3 (X : Cx p s m meth c args cc nL own ret D) {idx nn b d : Nat} {y : MethodName} {b2 : ByteArray} {ret2 : Option FieldType} {rest : List Value} {x1 x2 x3 : Value} {P : xM → Prop} (ml : ML own idx y) (yv : YV y b2 nn ret2 3) (pc' : Nat) (hd : decode cc pc = .ok (.invokevirtual idx, 3)) (hp : pc + 3 = pc') (ct : CtV l D Bs y b2 nn ret2 d [.ref b, x1, x2, x3] sz kd rf M P) (hk : ∃ ci r, kd b = some (.inl ci) ∧ vwCl[ci]? = some r ∧ r.1 = y.cls) (hR : d + 1 ≤ R.frames ∧ 8 + (nn + 11) + 40 * d ≤ R.locals) (hf : cells ≤ R.cells ∧ slots ≤ R.slots) (hw : (rest.map fun v => v.category).sum ≤ 8)
    (kk : ∀ M' : xM, P M' → G p l e R s m args below meth c D Bs nL cells slots Q sz kd rf M' pc' ls rest) : G p l e R s m args below meth c D Bs nL cells slots Q sz kd rf M pc ls (x3 :: x2 :: x1 :: .ref b :: rest) :=
  G.callV X (As := [x1, x2, x3]) (rest := rest) ml yv pc' hd hp ct hk rfl hR ⟨rfl, rfl⟩ hf hw (fun v sz' kd' rf' M' h => by obtain ⟨rfl, rfl, rfl, rfl, h⟩ := h; exact kk M' h)
theorem G.vV4 (X : Cx p s m meth c args cc nL own ret D) {idx nn b d : Nat} {y : MethodName} {b2 : ByteArray} {ret2 : Option FieldType} {rest : List Value} {x1 x2 x3 x4 : Value} {P : xM → Prop} (ml : ML own idx y) (yv : YV y b2 nn ret2 4) (pc' : Nat) (hd : decode cc pc = .ok (.invokevirtual idx, 3)) (hp : pc + 3 = pc') (ct : CtV l D Bs y b2 nn ret2 d [.ref b, x1, x2, x3, x4] sz kd rf M P) (hk : ∃ ci r, kd b = some (.inl ci) ∧ vwCl[ci]? = some r ∧ r.1 = y.cls) (hR : d + 1 ≤ R.frames ∧ 8 + (nn + 11) + 40 * d ≤ R.locals) (hf : cells ≤ R.cells ∧ slots ≤ R.slots) (hw : (rest.map fun v => v.category).sum ≤ 8)
    (kk : ∀ M' : xM, P M' → G p l e R s m args below meth c D Bs nL cells slots Q sz kd rf M' pc' ls rest) : G p l e R s m args below meth c D Bs nL cells slots Q sz kd rf M pc ls (x4 :: x3 :: x2 :: x1 :: .ref b :: rest) :=
  G.callV X (As := [x1, x2, x3, x4]) (rest := rest) ml yv pc' hd hp ct hk rfl hR ⟨rfl, rfl⟩ hf hw (fun v sz' kd' rf' M' h => by obtain ⟨rfl, rfl, rfl, rfl, h⟩ := h; exact kk M' h)
theorem G.vR1 (X : Cx p s m meth c args cc nL own ret D) {idx nn b d : Nat} {y : MethodName} {b2 : ByteArray} {ret2 : Option FieldType} {rest : List Value} {x1 : Value} {P : Value → xM → Prop} (ml : ML own idx y) (yv : YV y b2 nn ret2 1) (pc' : Nat) (hd : decode cc pc = .ok (.invokevirtual idx, 3)) (hp : pc + 3 = pc') (ct : CtR l D Bs y b2 nn ret2 d [.ref b, x1] sz kd rf M P) (hk : ∃ ci r, kd b = some (.inl ci) ∧ vwCl[ci]? = some r ∧ r.1 = y.cls) (hR : d + 1 ≤ R.frames ∧ 8 + (nn + 11) + 40 * d ≤ R.locals) (hf : cells ≤ R.cells ∧ slots ≤ R.slots) (hw : (rest.map fun v => v.category).sum ≤ 8)
    (kk : ∀ (r : Value) (M' : xM), P r M' → G p l e R s m args below meth c D Bs nL cells slots Q sz kd rf M' pc' ls (r :: rest)) : G p l e R s m args below meth c D Bs nL cells slots Q sz kd rf M pc ls (x1 :: .ref b :: rest) :=
  G.callV X (As := [x1]) (rest := rest) ml yv pc' hd hp ct hk rfl hR ⟨rfl, rfl⟩ hf hw (fun v sz' kd' rf' M' h => by obtain ⟨rfl, rfl, rfl, r, rfl, h⟩ := h; exact kk r M' h)
theorem G.min (X : Cx p s m meth c args cc nL own ret D) {idx : Nat} {a b : Int} {rest : List Value} (ml : Cond.methodLink own idx Lib.Math.min.name ∈ gw) (pc' : Nat) (hd : decode cc pc = .ok (.invokestatic idx, 3)) (hp : pc + 3 = pc') (ra : -2147483648 ≤ a ∧ a ≤ 2147483647) (rb : -2147483648 ≤ b ∧ b ≤ 2147483647) (hR : 1 ≤ R.frames ∧ (rest.map fun v => v.category).sum + 13 ≤ R.locals) (hf : cells ≤ R.cells ∧ slots ≤ R.slots)
    (kk : G p l e R s m args below meth c D Bs nL cells slots Q sz kd rf M pc' ls (vi (if b < a then b else a) :: rest)) : G p l e R s m args below meth c D Bs nL cells slots Q sz kd rf M pc ls (vi b :: vi a :: rest) := by
  intro H locs la hW hS hL
  subst hp
  have kk := kk H locs la hW hS hL
  obtain ⟨hx, hb, hml, hown, hts, hK, -, -⟩ := X
  refine va_mmin hx hb (hml.trans hL.1.1.symm) hown (hts _ ml) (hts _ ys_min) (hts _ ini_J9) (hts _ yc_min) hR.1 hR.2 hf.1 hf.2 hd ?_
  have e : (if Int32.ofInt b < Int32.ofInt a then Int32.ofInt b else Int32.ofInt a) = Int32.ofInt (if b < a then b else a) := by
    by_cases h : b < a
    · rw [if_pos ((oI_lt rb ra).mpr h), if_pos h]
    · rw [if_neg (fun q => h ((oI_lt rb ra).mp q)), if_neg h]
  rw [e]
  exact kk
theorem G.abs (X : Cx p s m meth c args cc nL own ret D) {idx : Nat} {a : Int} {rest : List Value} (ml : Cond.methodLink own idx Lib.Math.abs.name ∈ gw) (pc' : Nat) (hd : decode cc pc = .ok (.invokestatic idx, 3)) (hp : pc + 3 = pc') (ra : -2147483648 ≤ a ∧ a ≤ 2147483647) (hR : 1 ≤ R.frames ∧ (rest.map fun v => v.category).sum + 13 ≤ R.locals) (hf : cells ≤ R.cells ∧ slots ≤ R.slots)
    (kk : G p l e R s m args below meth c D Bs nL cells slots Q sz kd rf M pc' ls (vi (if 0 ≤ a then a else -a) :: rest)) : G p l e R s m args below meth c D Bs nL cells slots Q sz kd rf M pc ls (vi a :: rest) := by
  intro H locs la hW hS hL
  subst hp
  have kk := kk H locs la hW hS hL
  obtain ⟨hx, hb, hml, hown, hts, hK, -, -⟩ := X
  refine va_mabs hx hb (hml.trans hL.1.1.symm) hown (hts _ ml) (hts _ ys_abs) (hts _ ini_J9) (hts _ yc_abs) hR.1 hR.2 hf.1 hf.2 hd ?_
  have Z0 : -2147483648 ≤ (0 : Int) ∧ (0 : Int) ≤ 2147483647 := by omega
  have e : (if 0 ≤ Int32.ofInt a then Int32.ofInt a else 0 - Int32.ofInt a) = Int32.ofInt (if 0 ≤ a then a else -a) := by
    rw [oI_0]
    by_cases h : 0 ≤ a
    · rw [if_pos ((oI_le Z0 ra).mpr h), if_pos h]
    · rw [if_neg (fun q => h ((oI_le Z0 ra).mp q)), if_neg h, ← Int32.ofInt_sub, Int.zero_sub]
  rw [e]
  exact kk
theorem G.objInit (X : Cx p s m meth c args cc nL own ret D) {idx a : Nat} {rest : List Value} (ml : Cond.methodLink own idx objectInit ∈ gw) (pc' : Nat) (hd : decode cc pc = .ok (.invokespecial idx, 3)) (hp : pc + 3 = pc') (hR : 1 ≤ R.frames ∧ (rest.map fun v => v.category).sum + 12 ≤ R.locals)
    (kk : G p l e R s m args below meth c D Bs nL cells slots Q sz kd rf M pc' ls rest) : G p l e R s m args below meth c D Bs nL cells slots Q sz kd rf M pc ls (.ref a :: rest) := by
  intro H locs la hW hS hL
  subst hp
  have kk := kk H locs la hW hS hL
  obtain ⟨hx, hb, hml, hown, hts, hK, -, -⟩ := X
  exact W.objInit hx hb hown (hts _ ml) (hts _ oi_in) (hts _ oi_code) rfl (hL.1.1.trans hml.symm) rfl hd hR.1 (by show 2 * 0 + _ + 12 ≤ _; omega) kk
theorem G.iret (X : Cx p s m meth c args cc nL own (some .int) D) {post : xPost} {mc ms : Nat} {a : Int} (hd : decode cc pc = .ok (.ireturn, 1)) (hc : cells ≤ mc ∧ slots ≤ ms) (h : post (some (vi a)) sz kd rf M) : G p l e R s m args below meth c D Bs nL cells slots (MQ below (xQ D Bs post) args s mc ms (fun q => Bs ≤ q)) sz kd rf M pc ls [vi a] := by
  intro H locs la hW hS hL
  refine W.widen hc.1 hc.2 ?_
  obtain ⟨hx, hb, hml, hown, hts, hK, hr, hlocks⟩ := X
  exact W.iret hx hb hr (fun t ht hWm => ⟨⟨_, sz, kd, rf, M, rfl, h, by rw [ht]; exact hW⟩, hS.F ht⟩) hS.2.2 hd
theorem G.zret (X : Cx p s m meth c args cc nL own (some .boolean) D) {post : xPost} {mc ms : Nat} {a : Int} (hd : decode cc pc = .ok (.ireturn, 1)) (hc : cells ≤ mc ∧ slots ≤ ms) (h01 : a = 0 ∨ a = 1) (h : post (some (vi a)) sz kd rf M) : G p l e R s m args below meth c D Bs nL cells slots (MQ below (xQ D Bs post) args s mc ms (fun q => Bs ≤ q)) sz kd rf M pc ls [vi a] := by
  intro H locs la hW hS hL
  refine W.widen hc.1 hc.2 ?_
  obtain ⟨hx, hb, hml, hown, hts, hK, hr, hlocks⟩ := X
  exact W.zret hx hb hr (nar01 h01).1 (fun t ht hWm => ⟨⟨_, sz, kd, rf, M, rfl, h, by rw [ht]; exact hW⟩, hS.F ht⟩) hS.2.2 hd
theorem G.vret (X : Cx p s m meth c args cc nL own none D) {post : xPost} {mc ms : Nat} (hd : decode cc pc = .ok (.return_, 1)) (hc : cells ≤ mc ∧ slots ≤ ms) (h : post none sz kd rf M) : G p l e R s m args below meth c D Bs nL cells slots (MQ below (xQ D Bs post) args s mc ms (fun q => Bs ≤ q)) sz kd rf M pc ls [] := by
  intro H locs la hW hS hL
  refine W.widen hc.1 hc.2 ?_
  obtain ⟨hx, hb, hml, hown, hts, hK, hr, hlocks⟩ := X
  exact W.vret hx hb hr (fun t ht hWm => ⟨⟨_, sz, kd, rf, M, rfl, h, by rw [ht]; exact hW⟩, hS.F ht⟩) hS.2.2 hd
theorem G.aret {n : String} (X : Cx p s m meth c args cc nL own (some (.object n)) D) {post : xPost} {mc ms : Nat} {v : Value} (hd : decode cc pc = .ok (.areturn, 1)) (hc : cells ≤ mc ∧ slots ≤ ms) (hv : v = .null ∨ ∃ a, v = .ref a) (h : post (some v) sz kd rf M) : G p l e R s m args below meth c D Bs nL cells slots (MQ below (xQ D Bs post) args s mc ms (fun q => Bs ≤ q)) sz kd rf M pc ls [v] := by
  intro H locs la hW hS hL
  refine W.widen hc.1 hc.2 ?_
  obtain ⟨hx, hb, hml, hown, hts, hK, hr, hlocks⟩ := X
  exact W.aret hx hb hr (Or.inl ⟨_, rfl⟩) hv (fun t ht hWm => ⟨⟨_, sz, kd, rf, M, rfl, h, by rw [ht]; exact hW⟩, hS.F ht⟩) hS.2.2 hd
end GH
end
section
abbrev IR (x : Int) : Prop := -2147483648 ≤ x ∧ x ≤ 2147483647
def IsC (kd : xKd) (rf : xRf) (a : Nat) : Prop := kd a = some (.inl 0) ∧ ∀ k, rf a k = none
def IsG (kd : xKd) (rf : xRf) (a : Nat) : Prop := kd a = some (.inl 1) ∧ ∀ k, rf a k = none
def IsA (kd : xKd) (rf : xRf) (a n : Nat) : Prop := kd a = some (.inr (0, n)) ∧ ∀ k, rf a k = none
def IsCA (kd : xKd) (rf : xRf) (a n : Nat) : Prop := kd a = some (.inr (1, n)) ∧ ∀ k, rf a k = none
/-- a State of the class, its 25 cells from b on -/
def ShSt (kd : xKd) (rf : xRf) (b : Nat) : Prop := kd b = some (.inl 4) ∧ (∀ k, k < 9 → rf b k = none) ∧ rf b 9 = some (.ref (b + 1)) ∧ rf b 10 = some (.ref (b + 2)) ∧ kd (b + 1) = some (.inr (2, 10)) ∧ kd (b + 2) = some (.inr (3, 12)) ∧ (∀ i, i < 10 → rf (b + 1) i = some (.ref (b + 3 + i)) ∧ IsG kd rf (b + 3 + i)) ∧ ∀ i, i < 12 → rf (b + 2) i = some (.ref (b + 13 + i)) ∧ IsC kd rf (b + 13 + i)
theorem ShSt.kg {kd : xKd} {rf : xRf} {b : Nat} (h : ShSt kd rf b) : kd (b + 1) = some (.inr (2, 10)) := h.2.2.2.2.1
theorem ShSt.kc {kd : xKd} {rf : xRf} {b : Nat} (h : ShSt kd rf b) : kd (b + 2) = some (.inr (3, 12)) := h.2.2.2.2.2.1
theorem ShSt.rg {kd : xKd} {rf : xRf} {b i : Nat} (h : ShSt kd rf b) (hi : i < 10) : rf (b + 1) i = some (.ref (b + 3 + i)) := (h.2.2.2.2.2.2.1 i hi).1
theorem ShSt.g {kd : xKd} {rf : xRf} {b i : Nat} (h : ShSt kd rf b) (hi : i < 10) : IsG kd rf (b + 3 + i) := (h.2.2.2.2.2.2.1 i hi).2
theorem ShSt.rc {kd : xKd} {rf : xRf} {b i : Nat} (h : ShSt kd rf b) (hi : i < 12) : rf (b + 2) i = some (.ref (b + 13 + i)) := (h.2.2.2.2.2.2.2 i hi).1
theorem ShSt.c {kd : xKd} {rf : xRf} {b i : Nat} (h : ShSt kd rf b) (hi : i < 12) : IsC kd rf (b + 13 + i) := (h.2.2.2.2.2.2.2 i hi).2
/-- the history: its rows are five States -/
def ShH (kd : xKd) (rf : xRf) (a : Nat) : Prop := kd a = some (.inl 2) ∧ rf a 0 = some (.ref (a + 1)) ∧ (∀ k, 0 < k ∧ k < 3 → rf a k = none) ∧ kd (a + 1) = some (.inr (4, 5)) ∧ ∀ i, i < 5 → rf (a + 1) i = some (.ref (a + 2 + 25 * i)) ∧ ShSt kd rf (a + 2 + 25 * i)
theorem ShH.k {kd : xKd} {rf : xRf} {a : Nat} (h : ShH kd rf a) : kd (a + 1) = some (.inr (4, 5)) := h.2.2.2.1
theorem ShH.r {kd : xKd} {rf : xRf} {a i : Nat} (h : ShH kd rf a) (hi : i < 5) : rf (a + 1) i = some (.ref (a + 2 + 25 * i)) := (h.2.2.2.2 i hi).1
theorem ShH.s {kd : xKd} {rf : xRf} {a i : Nat} (h : ShH kd rf a) (hi : i < 5) : ShSt kd rf (a + 2 + 25 * i) := (h.2.2.2.2 i hi).2
/-- the text: signs at a + 1, lines at a + 2, the sites read from a + 3 on -/
def ShT (kd : xKd) (rf : xRf) (a : Nat) : Prop := kd a = some (.inl 3) ∧ rf a 0 = some (.ref (a + 1)) ∧ rf a 2 = some (.ref (a + 2)) ∧ (∀ k, k ≠ 0 ∧ k ≠ 2 → rf a k = none) ∧ IsCA kd rf (a + 1) 60 ∧ kd (a + 2) = some (.inr (3, 8)) ∧ ∀ i, i < 8 → rf (a + 2) i = some (.ref (a + 3 + i)) ∧ IsC kd rf (a + 3 + i)
theorem ShT.signs {kd : xKd} {rf : xRf} {a : Nat} (h : ShT kd rf a) : IsCA kd rf (a + 1) 60 := h.2.2.2.2.1
theorem ShT.kl {kd : xKd} {rf : xRf} {a : Nat} (h : ShT kd rf a) : kd (a + 2) = some (.inr (3, 8)) := h.2.2.2.2.2.1
theorem ShT.rl {kd : xKd} {rf : xRf} {a i : Nat} (h : ShT kd rf a) (hi : i < 8) : rf (a + 2) i = some (.ref (a + 3 + i)) := (h.2.2.2.2.2.2 i hi).1
theorem ShT.l {kd : xKd} {rf : xRf} {a i : Nat} (h : ShT kd rf a) (hi : i < 8) : IsC kd rf (a + 3 + i) := (h.2.2.2.2.2.2 i hi).2
/-- the class's object, its 215 cells from a on -/
def ShX (kd : xKd) (rf : xRf) (a : Nat) : Prop := kd a = some (.inl 5) ∧ rf a 3 = none ∧ (rf a 0 = some (.ref (a + 1)) ∧ ShSt kd rf (a + 1)) ∧ (rf a 1 = some (.ref (a + 26)) ∧ ShSt kd rf (a + 26)) ∧ (rf a 2 = some (.ref (a + 51)) ∧ ShSt kd rf (a + 51)) ∧ (rf a 4 = some (.ref (a + 76)) ∧ ShH kd rf (a + 76)) ∧ (rf a 5 = some (.ref (a + 203)) ∧ ShT kd rf (a + 203)) ∧ rf a 6 = some (.ref (a + 214)) ∧ IsA kd rf (a + 214) 12
theorem ShX.r0 {kd : xKd} {rf : xRf} {a : Nat} (h : ShX kd rf a) : rf a 0 = some (.ref (a + 1)) := (h.2.2.1).1
theorem ShX.now {kd : xKd} {rf : xRf} {a : Nat} (h : ShX kd rf a) : ShSt kd rf (a + 1) := (h.2.2.1).2
theorem ShX.r1 {kd : xKd} {rf : xRf} {a : Nat} (h : ShX kd rf a) : rf a 1 = some (.ref (a + 26)) := (h.2.2.2.1).1
theorem ShX.ahead {kd : xKd} {rf : xRf} {a : Nat} (h : ShX kd rf a) : ShSt kd rf (a + 26) := (h.2.2.2.1).2
theorem ShX.r2 {kd : xKd} {rf : xRf} {a : Nat} (h : ShX kd rf a) : rf a 2 = some (.ref (a + 51)) := (h.2.2.2.2.1).1
theorem ShX.snap {kd : xKd} {rf : xRf} {a : Nat} (h : ShX kd rf a) : ShSt kd rf (a + 51) := (h.2.2.2.2.1).2
theorem ShX.r4 {kd : xKd} {rf : xRf} {a : Nat} (h : ShX kd rf a) : rf a 4 = some (.ref (a + 76)) := (h.2.2.2.2.2.1).1
theorem ShX.hist {kd : xKd} {rf : xRf} {a : Nat} (h : ShX kd rf a) : ShH kd rf (a + 76) := (h.2.2.2.2.2.1).2
theorem ShX.r5 {kd : xKd} {rf : xRf} {a : Nat} (h : ShX kd rf a) : rf a 5 = some (.ref (a + 203)) := (h.2.2.2.2.2.2.1).1
theorem ShX.text {kd : xKd} {rf : xRf} {a : Nat} (h : ShX kd rf a) : ShT kd rf (a + 203) := (h.2.2.2.2.2.2.1).2
theorem ShX.r6 {kd : xKd} {rf : xRf} {a : Nat} (h : ShX kd rf a) : rf a 6 = some (.ref (a + 214)) := h.2.2.2.2.2.2.2.1
theorem ShX.order {kd : xKd} {rf : xRf} {a : Nat} (h : ShX kd rf a) : IsA kd rf (a + 214) 12 := h.2.2.2.2.2.2.2.2
/-- the reference, its 8 cells from a on -/
def ShY (kd : xKd) (rf : xRf) (a : Nat) : Prop := kd a = some (.inl 6) ∧ (∀ k, k = 2 ∨ k = 4 ∨ k = 7 ∨ k = 9 ∨ k = 10 → rf a k = none) ∧ (rf a 0 = some (.ref (a + 1)) ∧ IsA kd rf (a + 1) 236) ∧ (rf a 1 = some (.ref (a + 2)) ∧ IsA kd rf (a + 2) 1180) ∧ (rf a 3 = some (.ref (a + 3)) ∧ IsA kd rf (a + 3) 236) ∧ (rf a 5 = some (.ref (a + 4)) ∧ IsA kd rf (a + 4) 236) ∧ (rf a 6 = some (.ref (a + 5)) ∧ IsA kd rf (a + 5) 12) ∧ (rf a 11 = some (.ref (a + 7)) ∧ IsA kd rf (a + 7) 36) ∧ (rf a 8 = some (.ref (a + 6)) ∧ IsCA kd rf (a + 6) 60)
theorem ShY.r0 {kd : xKd} {rf : xRf} {a : Nat} (h : ShY kd rf a) : rf a 0 = some (.ref (a + 1)) := (h.2.2.1).1
theorem ShY.a0 {kd : xKd} {rf : xRf} {a : Nat} (h : ShY kd rf a) : IsA kd rf (a + 1) 236 := (h.2.2.1).2
theorem ShY.r1 {kd : xKd} {rf : xRf} {a : Nat} (h : ShY kd rf a) : rf a 1 = some (.ref (a + 2)) := (h.2.2.2.1).1
theorem ShY.a1 {kd : xKd} {rf : xRf} {a : Nat} (h : ShY kd rf a) : IsA kd rf (a + 2) 1180 := (h.2.2.2.1).2
theorem ShY.r3 {kd : xKd} {rf : xRf} {a : Nat} (h : ShY kd rf a) : rf a 3 = some (.ref (a + 3)) := (h.2.2.2.2.1).1
theorem ShY.a3 {kd : xKd} {rf : xRf} {a : Nat} (h : ShY kd rf a) : IsA kd rf (a + 3) 236 := (h.2.2.2.2.1).2
theorem ShY.r5 {kd : xKd} {rf : xRf} {a : Nat} (h : ShY kd rf a) : rf a 5 = some (.ref (a + 4)) := (h.2.2.2.2.2.1).1
theorem ShY.a5 {kd : xKd} {rf : xRf} {a : Nat} (h : ShY kd rf a) : IsA kd rf (a + 4) 236 := (h.2.2.2.2.2.1).2
theorem ShY.r6 {kd : xKd} {rf : xRf} {a : Nat} (h : ShY kd rf a) : rf a 6 = some (.ref (a + 5)) := (h.2.2.2.2.2.2.1).1
theorem ShY.a6 {kd : xKd} {rf : xRf} {a : Nat} (h : ShY kd rf a) : IsA kd rf (a + 5) 12 := (h.2.2.2.2.2.2.1).2
theorem ShY.r11 {kd : xKd} {rf : xRf} {a : Nat} (h : ShY kd rf a) : rf a 11 = some (.ref (a + 7)) := (h.2.2.2.2.2.2.2.1).1
theorem ShY.a11 {kd : xKd} {rf : xRf} {a : Nat} (h : ShY kd rf a) : IsA kd rf (a + 7) 36 := (h.2.2.2.2.2.2.2.1).2
theorem ShY.r8 {kd : xKd} {rf : xRf} {a : Nat} (h : ShY kd rf a) : rf a 8 = some (.ref (a + 6)) := (h.2.2.2.2.2.2.2.2).1
theorem ShY.a8 {kd : xKd} {rf : xRf} {a : Nat} (h : ShY kd rf a) : IsCA kd rf (a + 6) 60 := (h.2.2.2.2.2.2.2.2).2
theorem fi_0_0 : FI 0 0 .int false := FI.of (C := RX0) (T := TX0) (N := 9) rfl (by decide +kernel)
theorem fi_0_1 : FI 0 1 .int false := FI.of (C := RX0) (T := TX0) (N := 9) rfl (by decide +kernel)
theorem fi_0_2 : FI 0 2 .int false := FI.of (C := RX0) (T := TX0) (N := 9) rfl (by decide +kernel)
theorem fi_0_3 : FI 0 3 .int false := FI.of (C := RX0) (T := TX0) (N := 9) rfl (by decide +kernel)
theorem fi_0_4 : FI 0 4 .int false := FI.of (C := RX0) (T := TX0) (N := 9) rfl (by decide +kernel)
theorem fi_0_5 : FI 0 5 .int false := FI.of (C := RX0) (T := TX0) (N := 9) rfl (by decide +kernel)
theorem fi_0_6 : FI 0 6 .int false := FI.of (C := RX0) (T := TX0) (N := 9) rfl (by decide +kernel)
theorem fi_0_7 : FI 0 7 .int false := FI.of (C := RX0) (T := TX0) (N := 9) rfl (by decide +kernel)
theorem fi_0_8 : FI 0 8 .int false := FI.of (C := RX0) (T := TX0) (N := 9) rfl (by decide +kernel)
theorem fi_1_0 : FI 1 0 .int false := FI.of (C := RX1) (T := TX1) (N := 9) rfl (by decide +kernel)
theorem fi_1_1 : FI 1 1 .int false := FI.of (C := RX1) (T := TX1) (N := 9) rfl (by decide +kernel)
theorem fi_1_2 : FI 1 2 .int false := FI.of (C := RX1) (T := TX1) (N := 9) rfl (by decide +kernel)
theorem fi_1_3 : FI 1 3 .int false := FI.of (C := RX1) (T := TX1) (N := 9) rfl (by decide +kernel)
theorem fi_1_4 : FI 1 4 .int false := FI.of (C := RX1) (T := TX1) (N := 9) rfl (by decide +kernel)
theorem fi_1_5 : FI 1 5 .int false := FI.of (C := RX1) (T := TX1) (N := 9) rfl (by decide +kernel)
theorem fi_1_6 : FI 1 6 .boolean false := FI.of (C := RX1) (T := TX1) (N := 9) rfl (by decide +kernel)
theorem fi_1_7 : FI 1 7 .int false := FI.of (C := RX1) (T := TX1) (N := 9) rfl (by decide +kernel)
theorem fi_1_8 : FI 1 8 .int false := FI.of (C := RX1) (T := TX1) (N := 9) rfl (by decide +kernel)
theorem fi_2_1 : FI 2 1 .int false := FI.of (C := RX2) (T := TX2) (N := 3) rfl (by decide +kernel)
theorem fi_2_2 : FI 2 2 .int false := FI.of (C := RX2) (T := TX2) (N := 3) rfl (by decide +kernel)
theorem fi_3_1 : FI 3 1 .int false := FI.of (C := RX3) (T := TX3) (N := 5) rfl (by decide +kernel)
theorem fi_3_3 : FI 3 3 .int false := FI.of (C := RX3) (T := TX3) (N := 5) rfl (by decide +kernel)
theorem fi_3_4 : FI 3 4 .int false := FI.of (C := RX3) (T := TX3) (N := 5) rfl (by decide +kernel)
theorem fi_4_0 : FI 4 0 .int false := FI.of (C := RX4) (T := TX4) (N := 11) rfl (by decide +kernel)
theorem fi_4_1 : FI 4 1 .int false := FI.of (C := RX4) (T := TX4) (N := 11) rfl (by decide +kernel)
theorem fi_4_2 : FI 4 2 .int false := FI.of (C := RX4) (T := TX4) (N := 11) rfl (by decide +kernel)
theorem fi_4_3 : FI 4 3 .int false := FI.of (C := RX4) (T := TX4) (N := 11) rfl (by decide +kernel)
theorem fi_4_4 : FI 4 4 .int false := FI.of (C := RX4) (T := TX4) (N := 11) rfl (by decide +kernel)
theorem fi_4_5 : FI 4 5 .int false := FI.of (C := RX4) (T := TX4) (N := 11) rfl (by decide +kernel)
theorem fi_4_6 : FI 4 6 .int false := FI.of (C := RX4) (T := TX4) (N := 11) rfl (by decide +kernel)
theorem fi_4_7 : FI 4 7 .int false := FI.of (C := RX4) (T := TX4) (N := 11) rfl (by decide +kernel)
theorem fi_4_8 : FI 4 8 .int false := FI.of (C := RX4) (T := TX4) (N := 11) rfl (by decide +kernel)
theorem fi_5_3 : FI 5 3 .boolean false := FI.of (C := RX5) (T := TX5) (N := 7) rfl (by decide +kernel)
theorem fi_6_2 : FI 6 2 .int false := FI.of (C := RX6) (T := TX6) (N := 12) rfl (by decide +kernel)
theorem fi_6_4 : FI 6 4 .boolean false := FI.of (C := RX6) (T := TX6) (N := 12) rfl (by decide +kernel)
theorem fi_6_7 : FI 6 7 .int false := FI.of (C := RX6) (T := TX6) (N := 12) rfl (by decide +kernel)
theorem fi_6_9 : FI 6 9 .int false := FI.of (C := RX6) (T := TX6) (N := 12) rfl (by decide +kernel)
theorem fi_6_10 : FI 6 10 .int false := FI.of (C := RX6) (T := TX6) (N := 12) rfl (by decide +kernel)
section GX
variable {p : Program} {l : Launch} {e : Env} {R : Room} {s : State} {m : MethodId} {args : Array Value} {below : List Frame} {meth : Method} {c : Code} {D : xD} {Bs nL cells slots : Nat} {Q : State → Prop} {sz : Nat} {kd : xKd} {rf : xRf} {M : xM} {cc : ByteArray} {own : String} {ret : Option FieldType} {pc : Nat} {ls : List (Option Value)} {st : List Value}
theorem G.okd (k : xOk kd M → G p l e R s m args below meth c D Bs nL cells slots Q sz kd rf M pc ls st) : G p l e R s m args below meth c D Bs nL cells slots Q sz kd rf M pc ls st := fun H locs la hW hS hL => k hW.2.2.2 H locs la hW hS hL
theorem G.idivI (X : Cx p s m meth c args cc nL own ret D) {x y : Int} (pc' : Nat) (hd : decode cc pc = .ok (.idiv, 1)) (hp : pc + 1 = pc') (hx : 0 ≤ x ∧ x ≤ 2147483647) (hy : 0 < y ∧ y ≤ 2147483647)
    (kk : G p l e R s m args below meth c D Bs nL cells slots Q sz kd rf M pc' ls (vi (x / y) :: st)) : G p l e R s m args below meth c D Bs nL cells slots Q sz kd rf M pc ls (vi y :: vi x :: st) := by
  obtain ⟨a, rfl⟩ : ∃ a : Nat, x = (a : Int) := ⟨x.toNat, by omega⟩
  obtain ⟨b, rfl⟩ : ∃ b : Nat, y = (b : Int) := ⟨y.toNat, by omega⟩
  refine G.idiv X pc' hd hp (by omega) (by omega) (by omega) ?_
  rw [Int.natCast_ediv]
  exact kk
theorem G.iremI (X : Cx p s m meth c args cc nL own ret D) {x y : Int} (pc' : Nat) (hd : decode cc pc = .ok (.irem, 1)) (hp : pc + 1 = pc') (hx : 0 ≤ x ∧ x ≤ 2147483647) (hy : 0 < y ∧ y ≤ 2147483647)
    (kk : G p l e R s m args below meth c D Bs nL cells slots Q sz kd rf M pc' ls (vi (x % y) :: st)) : G p l e R s m args below meth c D Bs nL cells slots Q sz kd rf M pc ls (vi y :: vi x :: st) := by
  obtain ⟨a, rfl⟩ : ∃ a : Nat, x = (a : Int) := ⟨x.toNat, by omega⟩
  obtain ⟨b, rfl⟩ : ∃ b : Nat, y = (b : Int) := ⟨y.toNat, by omega⟩
  refine G.irem X pc' hd hp (by omega) (by omega) (by omega) ?_
  rw [Int.natCast_emod]
  exact kk
theorem G.eqv {ls' : List (Option Value)} {st' : List Value} (h1 : ls = ls') (h2 : st = st') (kk : G p l e R s m args below meth c D Bs nL cells slots Q sz kd rf M pc ls' st') : G p l e R s m args below meth c D Bs nL cells slots Q sz kd rf M pc ls st := by
  subst h1
  subst h2
  exact kk
theorem G.drop (k : Nat) (kk : G p l e R s m args below meth c D Bs nL cells slots Q sz kd rf M pc (ls.set k none) st) : G p l e R s m args below meth c D Bs nL cells slots Q sz kd rf M pc ls st := by
  intro H locs la hW hS hL
  have hsub : ∀ (i : Nat) (v : Value), (ls.set k none)[i]? = some (some v) → ls[i]? = some (some v) := by
    intro i v h
    by_cases hi : i = k
    · subst hi
      rw [List.getElem?_set] at h
      simp at h
    · rw [List.getElem?_set_ne (Ne.symm hi)] at h
      exact h
  refine kk H locs la hW hS ⟨⟨hL.1.1, hL.1.2.1, fun q hq => ?_⟩, fun v hv => ?_⟩
  · obtain ⟨j, h1, h2⟩ := lvl_of hq
    have h3 := hL.get (hsub j _ h2)
    rw [show q.1 = j by omega]
    exact h3
  · obtain ⟨j, hj⟩ := List.getElem?_of_mem hv
    exact hL.2 v (List.mem_of_getElem? (hsub j v hj))
theorem G.eqm {M' : xM} (h : M = M') (kk : G p l e R s m args below meth c D Bs nL cells slots Q sz kd rf M' pc ls st) : G p l e R s m args below meth c D Bs nL cells slots Q sz kd rf M pc ls st := by
  subst h
  exact kk
end GX
end
section
/-! ===== rows: what a state is, as 236 ints; and what the calls make of them ===== -/
abbrev xR : Type := Nat → Int
def nS (r : xR) : Nat := (r 6).toNat
def nC (r : xR) : Nat := (r 7).toNat
/-- a set's number, a site's number -/
def fS (r : xR) (i k : Nat) : Int := r (16 + 10 * i + k)
def fC (r : xR) (i k : Nat) : Int := r (116 + 10 * i + k)
def Vset (r : xR) (i : Nat) (w : Int) : Prop := (1 ≤ fS r i 0 ∧ fS r i 0 ≤ 99) ∧ (10 ≤ fS r i 1 ∧ fS r i 1 ≤ 500) ∧ (1 ≤ fS r i 2 ∧ fS r i 2 ≤ 50) ∧ (-30 ≤ fS r i 3 ∧ fS r i 3 ≤ 10) ∧ (0 ≤ fS r i 4 ∧ fS r i 4 ≤ fS r i 1) ∧ (0 ≤ fS r i 5 ∧ fS r i 5 ≤ r 7) ∧ (fS r i 6 = 0 ∨ fS r i 6 = 1 ∧ fS r i 2 ≤ fS r i 4) ∧ (0 ≤ fS r i 7 ∧ fS r i 7 ≤ w)
def Vsite (r : xR) (i : Nat) (d : Int) : Prop := (1 ≤ fC r i 0 ∧ fC r i 0 ≤ 9) ∧ (1 ≤ fC r i 1 ∧ fC r i 1 ≤ 99) ∧ (0 ≤ fC r i 2 ∧ fC r i 2 ≤ 998) ∧ (1 ≤ fC r i 3 ∧ fC r i 3 ≤ 999) ∧ (0 ≤ fC r i 4 ∧ fC r i 4 ≤ r 6) ∧ (0 ≤ fC r i 6 ∧ fC r i 6 ≤ d) ∧ (0 ≤ fC r i 8 ∧ fC r i 8 ≤ 3)
def Vb (r : xR) (w d : Int) : Prop := ((0 ≤ r 0 ∧ r 0 ≤ 999) ∧ (-30 ≤ r 1 ∧ r 1 ≤ 20) ∧ (1 ≤ r 2 ∧ r 2 ≤ 99) ∧ (0 ≤ r 3 ∧ r 3 ≤ 50000) ∧ (0 ≤ r 6 ∧ r 6 ≤ 10) ∧ (0 ≤ r 7 ∧ r 7 ≤ 12)) ∧ (∀ i, i < nS r → Vset r i w) ∧ ∀ i, i < nC r → Vsite r i d
theorem Vb.n6 {r : xR} {w d : Int} (h : Vb r w d) : r 6 = (nS r : Int) ∧ nS r ≤ 10 := by
  obtain ⟨⟨-, -, -, -, h6, -⟩, -⟩ := h
  unfold nS
  omega
theorem Vb.n7 {r : xR} {w d : Int} (h : Vb r w d) : r 7 = (nC r : Int) ∧ nC r ≤ 12 := by
  obtain ⟨⟨-, -, -, -, -, h7⟩, -⟩ := h
  unfold nC
  omega
theorem Vb.mono {r : xR} {w d w' d' : Int} (h : Vb r w d) (hw : w ≤ w') (hd : d ≤ d') : Vb r w' d' := by
  refine ⟨h.1, fun i hi => ?_, fun i hi => ?_⟩
  · have := h.2.1 i hi
    unfold Vset at this ⊢
    omega
  · have := h.2.2 i hi
    unfold Vsite at this ⊢
    omega
abbrev Vk (r : xR) : Prop := Vb r 20000 20000
def Gen (g : xR) (r : xR) (i : Nat) : Prop := g 0 = fS r i 0 ∧ g 1 = fS r i 1 ∧ g 2 = fS r i 2 ∧ g 3 = fS r i 3 ∧ g 4 = fS r i 4 ∧ (fS r i 5 = 0 ∧ g 5 = -5 ∨ 0 < fS r i 5 ∧ g 5 = fS r i 5 - 1) ∧ g 6 = fS r i 6 ∧ g 7 = fS r i 7 ∧ g 8 = fS r i 8
def Cus (c : xR) (r : xR) (i : Nat) : Prop := c 0 = fC r i 0 ∧ c 1 = fC r i 1 ∧ c 2 = fC r i 2 ∧ c 3 = fC r i 3 ∧ (fC r i 4 = 0 ∧ c 4 = -5 ∨ 0 < fC r i 4 ∧ c 4 = fC r i 4 - 1) ∧ c 5 = fC r i 5 ∧ c 6 = fC r i 6 ∧ c 7 = fC r i 7 ∧ (fC r i 8 = 0 ∧ c 8 = -5 ∨ 0 < fC r i 8 ∧ c 8 = fC r i 8)
/-- the class's State at b holds the row r -/
def St (M : xM) (b : Nat) (r : xR) : Prop := (M b 0 = r 0 ∧ M b 1 = r 1 ∧ M b 2 = r 2 ∧ M b 3 = r 3 ∧ M b 4 = r 4 ∧ M b 5 = r 5 ∧ M b 6 = r 11 ∧ M b 7 = r 6 ∧ M b 8 = r 7) ∧ (∀ i, i < nS r → Gen (M (b + 3 + i)) r i) ∧ ∀ i, i < nC r → Cus (M (b + 13 + i)) r i
theorem St.off {M M' : xM} {b : Nat} {r : xR} (h : St M b r) (hn : nS r ≤ 10 ∧ nC r ≤ 12) (hM : ∀ a, b ≤ a → a < b + 25 → M' a = M a) : St M' b r := by
  refine ⟨by rw [hM b (by omega) (by omega)]; exact h.1, fun i hi => ?_, fun i hi => ?_⟩
  · rw [hM _ (by omega) (by omega)]
    exact h.2.1 i hi
  · rw [hM _ (by omega) (by omega)]
    exact h.2.2 i hi
/-- the set of the yard for a site, among the first n -/
def yardF (r : xR) (s : Nat) : Nat → Int
  | 0 => -5
  | n + 1 => if (fS r n 5 = 0 ∧ fC r s 1 ≤ fS r n 0) ∧ (yardF r s n = -5 ∨ fS r n 0 < fS r (yardF r s n).toNat 0) then (n : Int) else yardF r s n
theorem yardF_s (r : xR) (s n : Nat) : yardF r s (n + 1) = if (fS r n 5 = 0 ∧ fC r s 1 ≤ fS r n 0) ∧ (yardF r s n = -5 ∨ fS r n 0 < fS r (yardF r s n).toNat 0) then (n : Int) else yardF r s n := rfl
theorem yardF_rng (r : xR) (s : Nat) : ∀ n, yardF r s n = -5 ∨ ∃ j : Nat, yardF r s n = (j : Int) ∧ j < n ∧ fS r j 5 = 0 ∧ fC r s 1 ≤ fS r j 0
  | 0 => Or.inl rfl
  | n + 1 => by
    rw [yardF_s]
    split
    · rename_i h
      exact Or.inr ⟨n, rfl, by omega, h.1.1, h.1.2⟩
    · rcases yardF_rng r s n with h | ⟨j, h1, h2, h3⟩
      · exact Or.inl h
      · exact Or.inr ⟨j, h1, by omega, h3⟩
theorem yardF_lim (r : xR) (s n : Nat) : yardF r s n = -5 ∨ 0 ≤ yardF r s n ∧ yardF r s n < n := by
  rcases yardF_rng r s n with h | ⟨j, h, hj, -⟩
  · exact Or.inl h
  · exact Or.inr (by omega)
theorem yardF_get {r : xR} {s n : Nat} (h : yardF r s n ≠ -5) : ∃ j : Nat, yardF r s n = (j : Int) ∧ j < n ∧ fS r j 5 = 0 ∧ fC r s 1 ≤ fS r j 0 := (yardF_rng r s n).resolve_left h
/-- the number of the set that a site has -/
def hasN (r : xR) (s : Nat) : Nat := (fC r s 4 - 1).toNat
/-- the partner for a swap, among the first n sites -/
def partF (r : xR) (s : Nat) : Nat → Int
  | 0 => -5
  | n + 1 => if (0 < fC r n 4 ∧ fC r s 1 ≤ fS r (hasN r n) 0 ∧ yardF r n (nS r) ≠ -5) ∧ (partF r s n = -5 ∨ fS r (hasN r n) 0 < fS r (hasN r (partF r s n).toNat) 0) then (n : Int) else partF r s n
theorem partF_s (r : xR) (s n : Nat) : partF r s (n + 1) = if (0 < fC r n 4 ∧ fC r s 1 ≤ fS r (hasN r n) 0 ∧ yardF r n (nS r) ≠ -5) ∧ (partF r s n = -5 ∨ fS r (hasN r n) 0 < fS r (hasN r (partF r s n).toNat) 0) then (n : Int) else partF r s n := rfl
theorem partF_rng (r : xR) (s : Nat) : ∀ n, partF r s n = -5 ∨ ∃ j : Nat, partF r s n = (j : Int) ∧ j < n ∧ 0 < fC r j 4 ∧ yardF r j (nS r) ≠ -5
  | 0 => Or.inl rfl
  | n + 1 => by
    rw [partF_s]
    split
    · rename_i h
      exact Or.inr ⟨n, rfl, by omega, h.1.1, h.1.2.2⟩
    · rcases partF_rng r s n with h | ⟨j, h1, h2, h3⟩
      · exact Or.inl h
      · exact Or.inr ⟨j, h1, by omega, h3⟩
theorem partF_lim (r : xR) (s n : Nat) : partF r s n = -5 ∨ 0 ≤ partF r s n ∧ partF r s n < n := by
  rcases partF_rng r s n with h | ⟨j, h, hj, -⟩
  · exact Or.inl h
  · exact Or.inr (by omega)
theorem partF_get {r : xR} {s n : Nat} (h : partF r s n ≠ -5) : ∃ j : Nat, partF r s n = (j : Int) ∧ j < n ∧ 0 < fC r j 4 ∧ yardF r j (nS r) ≠ -5 := (partF_rng r s n).resolve_left h
def sumN (f : Nat → Int) : Nat → Int
  | 0 => 0
  | n + 1 => sumN f n + f n
theorem sumN_s (f : Nat → Int) (n : Nat) : sumN f (n + 1) = sumN f n + f n := rfl
def cntN (P : Nat → Bool) : Nat → Nat
  | 0 => 0
  | n + 1 => cntN P n + (if P n then 1 else 0)
theorem cntN_s (P : Nat → Bool) (n : Nat) : cntN P (n + 1) = cntN P n + (if P n then 1 else 0) := rfl
theorem cntN_le (P : Nat → Bool) : ∀ n, cntN P n ≤ n
  | 0 => Nat.le_refl 0
  | n + 1 => by
    have := cntN_le P n
    rw [cntN_s]
    split <;> omega
def hoursL (r : xR) (m : Nat) : Int := fS r m 4 / fS r m 2
/-- sites by a key, the greater ahead; of the same the lower number -/
def insK (key : Nat → Int) (x : Nat) : List Nat → List Nat
  | [] => [x]
  | y :: t => if key y < key x then x :: y :: t else y :: insK key x t
def sortK (key : Nat → Int) (P : Nat → Bool) : Nat → List Nat
  | 0 => []
  | n + 1 => if P n then insK key n (sortK key P n) else sortK key P n
def nk (r : xR) (s : Nat) : Int := fC r s 0 * 100 + fC r s 1
def tk (r : xR) (s : Nat) : Int := nk r s - 1000 * hoursL r (hasN r s)
def openB (r : xR) (s : Nat) : Bool := decide (fC r s 2 ≤ r 0 ∧ r 0 < fC r s 3)
def hasB (r : xR) (s : Nat) : Bool := decide (0 < fC r s 4)
def needL (r : xR) : List Nat := sortK (nk r) (openB r) (nC r)
def thirL (r : xR) : List Nat := sortK (tk r) (hasB r) (nC r)
/-- why a set g would not start at t degrees; 0: it runs then -/
def caF (g : Nat → Int) (t : Int) : Int := if g 6 = 1 then 0 else if g 4 < g 2 then 2 else if t < g 3 ∧ 5 * g 7 < g 3 - t then 3 else 0
end
section
theorem fS_fuS {r : xR} {m k' i k : Nat} {x : Int} (hk' : k' < 10) (hk : k < 10) : fS (fu r (16 + 10 * m + k') x) i k = if i = m ∧ k = k' then x else fS r i k := by
  unfold fS
  rw [fu_at]
  by_cases h : i = m ∧ k = k'
  · obtain ⟨rfl, rfl⟩ := h
    simp
  · rw [if_neg h, if_neg (by omega)]
theorem fC_fuC {r : xR} {m k' i k : Nat} {x : Int} (hk' : k' < 10) (hk : k < 10) : fC (fu r (116 + 10 * m + k') x) i k = if i = m ∧ k = k' then x else fC r i k := by
  unfold fC
  rw [fu_at]
  by_cases h : i = m ∧ k = k'
  · obtain ⟨rfl, rfl⟩ := h
    simp
  · rw [if_neg h, if_neg (by omega)]
theorem fS_fuC {r : xR} {m k' i k : Nat} {x : Int} (hi : i < 10) (hk : k < 10) : fS (fu r (116 + 10 * m + k') x) i k = fS r i k := by
  unfold fS
  rw [fu_ne (by omega)]
theorem fC_fuS {r : xR} {m k' i k : Nat} {x : Int} (hm : m < 10) (hk' : k' < 10) : fC (fu r (16 + 10 * m + k') x) i k = fC r i k := by
  unfold fC
  rw [fu_ne (by omega)]
theorem fS_fu0 {r : xR} {j i k : Nat} {x : Int} (hj : j < 16) : fS (fu r j x) i k = fS r i k := by
  unfold fS
  rw [fu_ne (by omega)]
theorem fC_fu0 {r : xR} {j i k : Nat} {x : Int} (hj : j < 16) : fC (fu r j x) i k = fC r i k := by
  unfold fC
  rw [fu_ne (by omega)]
theorem at_fuS {r : xR} {m k j : Nat} {x : Int} (hj : j < 16) : fu r (16 + 10 * m + k) x j = r j := fu_ne (by omega)
theorem at_fuC {r : xR} {m k j : Nat} {x : Int} (hj : j < 16) : fu r (116 + 10 * m + k) x j = r j := fu_ne (by omega)
theorem nS_fuS {r : xR} {m k : Nat} {x : Int} : nS (fu r (16 + 10 * m + k) x) = nS r := by unfold nS; rw [at_fuS (by omega)]
theorem nS_fuC {r : xR} {m k : Nat} {x : Int} : nS (fu r (116 + 10 * m + k) x) = nS r := by unfold nS; rw [at_fuC (by omega)]
theorem nC_fuS {r : xR} {m k : Nat} {x : Int} : nC (fu r (16 + 10 * m + k) x) = nC r := by unfold nC; rw [at_fuS (by omega)]
theorem nC_fuC {r : xR} {m k : Nat} {x : Int} : nC (fu r (116 + 10 * m + k) x) = nC r := by unfold nC; rw [at_fuC (by omega)]
theorem nS_fu0 {r : xR} {j : Nat} {x : Int} (hj : j ≠ 6) : nS (fu r j x) = nS r := by unfold nS; rw [fu_ne (Ne.symm hj)]
theorem nC_fu0 {r : xR} {j : Nat} {x : Int} (hj : j ≠ 7) : nC (fu r j x) = nC r := by unfold nC; rw [fu_ne (Ne.symm hj)]
/-! one number of the class's State, and of the row -/
theorem St.setG {M : xM} {b m k : Nat} {r : xR} {x : Int} (h : St M b r) (hm : m < 10) (hn : nS r ≤ 10 ∧ nC r ≤ 12) (hk : k < 9) (hk5 : k ≠ 5) : St (mu M (b + 3 + m) k x) b (fu r (16 + 10 * m + k) x) := by
  refine ⟨?_, fun i hi => ?_, fun i hi => ?_⟩
  · simp only [mu_ne (Or.inl (show b ≠ b + 3 + m by omega)), at_fuS (show (0 : Nat) < 16 by decide), at_fuS (show (1 : Nat) < 16 by decide), at_fuS (show (2 : Nat) < 16 by decide), at_fuS (show (3 : Nat) < 16 by decide), at_fuS (show (4 : Nat) < 16 by decide), at_fuS (show (5 : Nat) < 16 by decide), at_fuS (show (6 : Nat) < 16 by decide), at_fuS (show (7 : Nat) < 16 by decide), at_fuS (show (11 : Nat) < 16 by decide)]
    exact h.1
  · rw [nS_fuS] at hi
    have g := h.2.1 i hi
    unfold Gen at g ⊢
    by_cases e : i = m
    · subst e
      simp only [mu_read, fS_fuS (show k < 10 by omega) (show (0 : Nat) < 10 by decide), fS_fuS (show k < 10 by omega) (show (1 : Nat) < 10 by decide), fS_fuS (show k < 10 by omega) (show (2 : Nat) < 10 by decide), fS_fuS (show k < 10 by omega) (show (3 : Nat) < 10 by decide), fS_fuS (show k < 10 by omega) (show (4 : Nat) < 10 by decide), fS_fuS (show k < 10 by omega) (show (5 : Nat) < 10 by decide), fS_fuS (show k < 10 by omega) (show (6 : Nat) < 10 by decide), fS_fuS (show k < 10 by omega) (show (7 : Nat) < 10 by decide), fS_fuS (show k < 10 by omega) (show (8 : Nat) < 10 by decide)]
      rcases (by omega : k = 0 ∨ k = 1 ∨ k = 2 ∨ k = 3 ∨ k = 4 ∨ k = 6 ∨ k = 7 ∨ k = 8) with e | e | e | e | e | e | e | e <;> subst e <;> simp <;> omega
    · simp only [mu_ne (Or.inl (show b + 3 + i ≠ b + 3 + m by omega)), fS_fuS (show k < 10 by omega) (show (0 : Nat) < 10 by decide), fS_fuS (show k < 10 by omega) (show (1 : Nat) < 10 by decide), fS_fuS (show k < 10 by omega) (show (2 : Nat) < 10 by decide), fS_fuS (show k < 10 by omega) (show (3 : Nat) < 10 by decide), fS_fuS (show k < 10 by omega) (show (4 : Nat) < 10 by decide), fS_fuS (show k < 10 by omega) (show (5 : Nat) < 10 by decide), fS_fuS (show k < 10 by omega) (show (6 : Nat) < 10 by decide), fS_fuS (show k < 10 by omega) (show (7 : Nat) < 10 by decide), fS_fuS (show k < 10 by omega) (show (8 : Nat) < 10 by decide), e, false_and, if_false]
      exact g
  · rw [nC_fuS] at hi
    have g := h.2.2 i hi
    unfold Cus at g ⊢
    simp only [mu_ne (Or.inl (show b + 13 + i ≠ b + 3 + m by omega)), fC_fuS hm (show k < 10 by omega)]
    exact g
theorem St.setG5 {M : xM} {b m : Nat} {r : xR} {x y : Int} (h : St M b r) (hm : m < 10) (hn : nS r ≤ 10 ∧ nC r ≤ 12) (hxy : x = 0 ∧ y = -5 ∨ 0 < x ∧ y = x - 1) : St (mu M (b + 3 + m) 5 y) b (fu r (16 + 10 * m + 5) x) := by
  refine ⟨?_, fun i hi => ?_, fun i hi => ?_⟩
  · simp only [mu_ne (Or.inl (show b ≠ b + 3 + m by omega)), at_fuS (show (0 : Nat) < 16 by decide), at_fuS (show (1 : Nat) < 16 by decide), at_fuS (show (2 : Nat) < 16 by decide), at_fuS (show (3 : Nat) < 16 by decide), at_fuS (show (4 : Nat) < 16 by decide), at_fuS (show (5 : Nat) < 16 by decide), at_fuS (show (6 : Nat) < 16 by decide), at_fuS (show (7 : Nat) < 16 by decide), at_fuS (show (11 : Nat) < 16 by decide)]
    exact h.1
  · rw [nS_fuS] at hi
    have g := h.2.1 i hi
    unfold Gen at g ⊢
    by_cases e : i = m
    · subst e
      simp [mu_read, fS_fuS]
      omega
    · simp only [mu_ne (Or.inl (show b + 3 + i ≠ b + 3 + m by omega)), fS_fuS (show (5 : Nat) < 10 by omega) (show (0 : Nat) < 10 by decide), fS_fuS (show (5 : Nat) < 10 by omega) (show (1 : Nat) < 10 by decide), fS_fuS (show (5 : Nat) < 10 by omega) (show (2 : Nat) < 10 by decide), fS_fuS (show (5 : Nat) < 10 by omega) (show (3 : Nat) < 10 by decide), fS_fuS (show (5 : Nat) < 10 by omega) (show (4 : Nat) < 10 by decide), fS_fuS (show (5 : Nat) < 10 by omega) (show (5 : Nat) < 10 by decide), fS_fuS (show (5 : Nat) < 10 by omega) (show (6 : Nat) < 10 by decide), fS_fuS (show (5 : Nat) < 10 by omega) (show (7 : Nat) < 10 by decide), fS_fuS (show (5 : Nat) < 10 by omega) (show (8 : Nat) < 10 by decide), e, false_and, if_false]
      exact g
  · rw [nC_fuS] at hi
    have g := h.2.2 i hi
    unfold Cus at g ⊢
    simp only [mu_ne (Or.inl (show b + 13 + i ≠ b + 3 + m by omega)), fC_fuS hm (show (5 : Nat) < 10 by omega)]
    exact g
theorem St.setC {M : xM} {b m k : Nat} {r : xR} {x y : Int} (h : St M b r) (hm : m < 12) (hn : nS r ≤ 10 ∧ nC r ≤ 12) (hk : k < 9) (hxy : k ≠ 4 ∧ k ≠ 8 ∧ x = y ∨ k = 4 ∧ (x = 0 ∧ y = -5 ∨ 0 < x ∧ y = x - 1) ∨ k = 8 ∧ (x = 0 ∧ y = -5 ∨ 0 < x ∧ y = x)) : St (mu M (b + 13 + m) k y) b (fu r (116 + 10 * m + k) x) := by
  refine ⟨?_, fun i hi => ?_, fun i hi => ?_⟩
  · simp only [mu_ne (Or.inl (show b ≠ b + 13 + m by omega)), at_fuC (show (0 : Nat) < 16 by decide), at_fuC (show (1 : Nat) < 16 by decide), at_fuC (show (2 : Nat) < 16 by decide), at_fuC (show (3 : Nat) < 16 by decide), at_fuC (show (4 : Nat) < 16 by decide), at_fuC (show (5 : Nat) < 16 by decide), at_fuC (show (6 : Nat) < 16 by decide), at_fuC (show (7 : Nat) < 16 by decide), at_fuC (show (11 : Nat) < 16 by decide)]
    exact h.1
  · rw [nS_fuC] at hi
    have g := h.2.1 i hi
    unfold Gen at g ⊢
    simp only [mu_ne (Or.inl (show b + 3 + i ≠ b + 13 + m by omega)), fS_fuC (show i < 10 by omega) (show (0 : Nat) < 10 by decide), fS_fuC (show i < 10 by omega) (show (1 : Nat) < 10 by decide), fS_fuC (show i < 10 by omega) (show (2 : Nat) < 10 by decide), fS_fuC (show i < 10 by omega) (show (3 : Nat) < 10 by decide), fS_fuC (show i < 10 by omega) (show (4 : Nat) < 10 by decide), fS_fuC (show i < 10 by omega) (show (5 : Nat) < 10 by decide), fS_fuC (show i < 10 by omega) (show (6 : Nat) < 10 by decide), fS_fuC (show i < 10 by omega) (show (7 : Nat) < 10 by decide), fS_fuC (show i < 10 by omega) (show (8 : Nat) < 10 by decide)]
    exact g
  · rw [nC_fuC] at hi
    have g := h.2.2 i hi
    unfold Cus at g ⊢
    by_cases e : i = m
    · subst e
      simp only [mu_read, fC_fuC (show k < 10 by omega) (show (0 : Nat) < 10 by decide), fC_fuC (show k < 10 by omega) (show (1 : Nat) < 10 by decide), fC_fuC (show k < 10 by omega) (show (2 : Nat) < 10 by decide), fC_fuC (show k < 10 by omega) (show (3 : Nat) < 10 by decide), fC_fuC (show k < 10 by omega) (show (4 : Nat) < 10 by decide), fC_fuC (show k < 10 by omega) (show (5 : Nat) < 10 by decide), fC_fuC (show k < 10 by omega) (show (6 : Nat) < 10 by decide), fC_fuC (show k < 10 by omega) (show (7 : Nat) < 10 by decide), fC_fuC (show k < 10 by omega) (show (8 : Nat) < 10 by decide)]
      rcases (by omega : k = 0 ∨ k = 1 ∨ k = 2 ∨ k = 3 ∨ k = 4 ∨ k = 5 ∨ k = 6 ∨ k = 7 ∨ k = 8) with e | e | e | e | e | e | e | e | e <;> subst e <;> simp <;> omega
    · simp only [mu_ne (Or.inl (show b + 13 + i ≠ b + 13 + m by omega)), fC_fuC (show k < 10 by omega) (show (0 : Nat) < 10 by decide), fC_fuC (show k < 10 by omega) (show (1 : Nat) < 10 by decide), fC_fuC (show k < 10 by omega) (show (2 : Nat) < 10 by decide), fC_fuC (show k < 10 by omega) (show (3 : Nat) < 10 by decide), fC_fuC (show k < 10 by omega) (show (4 : Nat) < 10 by decide), fC_fuC (show k < 10 by omega) (show (5 : Nat) < 10 by decide), fC_fuC (show k < 10 by omega) (show (6 : Nat) < 10 by decide), fC_fuC (show k < 10 by omega) (show (7 : Nat) < 10 by decide), fC_fuC (show k < 10 by omega) (show (8 : Nat) < 10 by decide), e, false_and, if_false]
      exact g
/-- a number of the depot: slot k of the State, place j of the row -/
theorem St.set0 {M : xM} {b k j : Nat} {r : xR} {x : Int} (h : St M b r) (hn : nS r ≤ 10 ∧ nC r ≤ 12) (hkj : k < 6 ∧ j = k ∨ k = 6 ∧ j = 11) : St (mu M b k x) b (fu r j x) := by
  refine ⟨?_, fun i hi => ?_, fun i hi => ?_⟩
  · have g := h.1
    rcases (by omega : k = 0 ∧ j = 0 ∨ k = 1 ∧ j = 1 ∨ k = 2 ∧ j = 2 ∨ k = 3 ∧ j = 3 ∨ k = 4 ∧ j = 4 ∨ k = 5 ∧ j = 5 ∨ k = 6 ∧ j = 11) with ⟨e, e2⟩ | ⟨e, e2⟩ | ⟨e, e2⟩ | ⟨e, e2⟩ | ⟨e, e2⟩ | ⟨e, e2⟩ | ⟨e, e2⟩ <;> subst e <;> subst e2 <;> simp [mu_read, fu_at] <;> omega
  · rw [nS_fu0 (by omega)] at hi
    have g := h.2.1 i hi
    unfold Gen at g ⊢
    simp only [mu_ne (Or.inl (show b + 3 + i ≠ b by omega)), fS_fu0 (show j < 16 by omega)]
    exact g
  · rw [nC_fu0 (by omega)] at hi
    have g := h.2.2 i hi
    unfold Cus at g ⊢
    simp only [mu_ne (Or.inl (show b + 13 + i ≠ b by omega)), fC_fu0 (show j < 16 by omega)]
    exact g
/-- what the class doesn't hold -/
theorem St.ign {M : xM} {b j : Nat} {r : xR} {x : Int} (h : St M b r) (hj : 8 ≤ j ∧ j ≤ 10) : St M b (fu r j x) := by
  refine ⟨?_, fun i hi => ?_, fun i hi => ?_⟩
  · have g := h.1
    rcases (by omega : j = 8 ∨ j = 9 ∨ j = 10) with e | e | e <;> subst e <;> simp [fu_at] <;> omega
  · rw [nS_fu0 (by omega)] at hi
    have g := h.2.1 i hi
    unfold Gen at g ⊢
    simp only [fS_fu0 (show j < 16 by omega)]
    exact g
  · rw [nC_fu0 (by omega)] at hi
    have g := h.2.2 i hi
    unfold Cus at g ⊢
    simp only [fC_fu0 (show j < 16 by omega)]
    exact g
end
section
/-- only the cells from b to b + n have changed -/
def Off (M M' : xM) (b n : Nat) : Prop := ∀ a, (a < b ∨ b + n ≤ a) → M' a = M a
theorem Off.rf {M : xM} {b n : Nat} : Off M M b n := fun _ _ => rfl
theorem Off.mu {M M' : xM} {b n a k : Nat} {x : Int} (h : Off M M' b n) (ha : b ≤ a ∧ a < b + n) : Off M (mu M' a k x) b n := fun q hq => by
  have e : q ≠ a := by omega
  show ms M' a (fu (M' a) k x) q = M q
  rw [ms_ne e]
  exact h q hq
theorem Off.trans {M M' M2 : xM} {b n : Nat} (h : Off M M' b n) (h2 : Off M' M2 b n) : Off M M2 b n := fun q hq => (h2 q hq).trans (h q hq)
theorem Off.mono {M M' : xM} {b n b' n' : Nat} (h : Off M M' b n) (hb : b' ≤ b ∧ b + n ≤ b' + n') : Off M M' b' n' := fun q hq => h q (by omega)
theorem caF_congr {g g' : xR} {t t' : Int} (h6 : g 6 = g' 6) (h4 : g 4 = g' 4) (h2 : g 2 = g' 2) (h3 : g 3 = g' 3) (h7 : g 7 = g' 7) (ht : t = t') : caF g t = caF g' t' := by
  unfold caF
  rw [h6, h4, h2, h3, h7, ht]
def causeR (r : xR) (s : Nat) : Int := if fC r s 4 = 0 then 1 else caF (fun k => fS r (hasN r s) k) (r 1)
/-- a set comes to a site; a site's set comes back -/
def comeR (r : xR) (m s : Nat) : xR := fu (fu (fu (fu r (116 + 10 * s + 4) ((m : Int) + 1)) (16 + 10 * m + 5) ((s : Int) + 1)) (16 + 10 * m + 6) 0) (16 + 10 * m + 7) 0
def freeR (r : xR) (m : Nat) : xR := fu (fu (fu r (16 + 10 * m + 5) 0) (16 + 10 * m + 6) 0) (16 + 10 * m + 7) 0
def backR (r : xR) (s : Nat) : xR := fu (freeR r (hasN r s)) (116 + 10 * s + 4) 0
def relR (r : xR) (s : Nat) : xR := if 0 < fC r s 4 then backR r s else r
/-- a site is lit for an hour, or dark for a cause -/
def litR (r : xR) (s : Nat) : xR := fu (fu (fu (fu (fu (fu (fu (fu r (16 + 10 * hasN r s + 4) (fS r (hasN r s) 4 - fS r (hasN r s) 2)) (16 + 10 * hasN r s + 8) (fS r (hasN r s) 8 + 1)) (16 + 10 * hasN r s + 6) (bi (fS r (hasN r s) 2 ≤ fS r (hasN r s) 4 - fS r (hasN r s) 2))) 4 (r 4 + fS r (hasN r s) 2)) (116 + 10 * s + 5) (fC r s 5 + 1)) (116 + 10 * s + 7) (fC r s 7 + fS r (hasN r s) 0 * r 2)) 10 (r 10 + fS r (hasN r s) 0 * r 2)) 8 (r 8 + 1)
def darkR (r : xR) (s : Nat) (c : Int) : xR := (fun q : xR => if c = 3 then fu q (16 + 10 * hasN r s + 7) (fS r (hasN r s) 7 + 1) else q) (fu (fu (fu (fu r (116 + 10 * s + 6) (fC r s 6 + 1)) (116 + 10 * s + 8) c) 9 (r 9 + 1)) 11 (r 11 + (if 1 < c then 1 else 0)))
def hrS (r : xR) (s : Nat) : xR := if causeR r s = 0 then litR r s else darkR r s (causeR r s)
def passS (r : xR) : Nat → xR
  | 0 => r
  | n + 1 => if openB (passS r n) n = true then hrS (passS r n) n else passS r n
def passT (r : xR) : Nat → xR
  | 0 => r
  | n + 1 => if fC (passT r n) n 3 = passT r n 0 then relR (passT r n) n else passT r n
def upR (r : xR) : xR := fu (passS r (nC r)) 0 (passS r (nC r) 0 + 1)
def hourR (r : xR) : xR := passT (upR r) (nC r)
def hoursR (r : xR) : Nat → xR
  | 0 => r
  | n + 1 => hourR (hoursR r n)
theorem passS_s (r : xR) (n : Nat) : passS r (n + 1) = if openB (passS r n) n = true then hrS (passS r n) n else passS r n := rfl
theorem passT_s (r : xR) (n : Nat) : passT r (n + 1) = if fC (passT r n) n 3 = passT r n 0 then relR (passT r n) n else passT r n := rfl
theorem openB_iff {r : xR} {s : Nat} : openB r s = true ↔ fC r s 2 ≤ r 0 ∧ r 0 < fC r s 3 := by
  unfold openB
  exact decide_eq_true_iff
/-! what they change -/
theorem litR_S {r : xR} {s i k : Nat} (hi : i < 10) (hk : k < 10) : fS (litR r s) i k = if i = hasN r s ∧ k = 6 then bi (fS r (hasN r s) 2 ≤ fS r (hasN r s) 4 - fS r (hasN r s) 2) else if i = hasN r s ∧ k = 8 then fS r (hasN r s) 8 + 1 else if i = hasN r s ∧ k = 4 then fS r (hasN r s) 4 - fS r (hasN r s) 2 else fS r i k := by
  unfold litR
  rw [fS_fu0 (by decide), fS_fu0 (by decide), fS_fuC hi hk, fS_fuC hi hk, fS_fu0 (by decide), fS_fuS (by decide) hk, fS_fuS (by decide) hk, fS_fuS (by decide) hk]
theorem litR_C {r : xR} {s i k : Nat} (hm : hasN r s < 10) (hk : k < 10) : fC (litR r s) i k = if i = s ∧ k = 7 then fC r s 7 + fS r (hasN r s) 0 * r 2 else if i = s ∧ k = 5 then fC r s 5 + 1 else fC r i k := by
  unfold litR
  rw [fC_fu0 (by decide), fC_fu0 (by decide), fC_fuC (by decide) hk, fC_fuC (by decide) hk, fC_fu0 (by decide), fC_fuS hm (by decide), fC_fuS hm (by decide), fC_fuS hm (by decide)]
theorem litR_0 {r : xR} {s j : Nat} (hj : j < 16) : litR r s j = if j = 8 then r 8 + 1 else if j = 10 then r 10 + fS r (hasN r s) 0 * r 2 else if j = 4 then r 4 + fS r (hasN r s) 2 else r j := by
  unfold litR
  rw [fu_at, fu_at, at_fuC hj, at_fuC hj, fu_at, at_fuS hj, at_fuS hj, at_fuS hj]
theorem darkR_S {r : xR} {s i k : Nat} {c : Int} (hi : i < 10) (hk : k < 10) : fS (darkR r s c) i k = if c = 3 ∧ i = hasN r s ∧ k = 7 then fS r (hasN r s) 7 + 1 else fS r i k := by
  unfold darkR
  by_cases hc : c = 3
  · simp only [hc, if_true, true_and]
    rw [fS_fuS (by decide) hk, fS_fu0 (by decide), fS_fu0 (by decide), fS_fuC hi hk, fS_fuC hi hk]
  · simp only [hc, if_false, false_and]
    rw [fS_fu0 (by decide), fS_fu0 (by decide), fS_fuC hi hk, fS_fuC hi hk]
theorem darkR_C {r : xR} {s i k : Nat} {c : Int} (hm : c = 3 → hasN r s < 10) (hk : k < 10) : fC (darkR r s c) i k = if i = s ∧ k = 8 then c else if i = s ∧ k = 6 then fC r s 6 + 1 else fC r i k := by
  unfold darkR
  by_cases hc : c = 3
  · simp only [hc, if_true]
    rw [fC_fuS (hm hc) (by decide), fC_fu0 (by decide), fC_fu0 (by decide), fC_fuC (by decide) hk, fC_fuC (by decide) hk]
  · simp only [hc, if_false]
    rw [fC_fu0 (by decide), fC_fu0 (by decide), fC_fuC (by decide) hk, fC_fuC (by decide) hk]
theorem darkR_0 {r : xR} {s j : Nat} {c : Int} (hj : j < 16) : darkR r s c j = if j = 11 then r 11 + (if 1 < c then 1 else 0) else if j = 9 then r 9 + 1 else r j := by
  unfold darkR
  by_cases hc : c = 3
  · simp only [hc, if_true]
    rw [at_fuS hj, fu_at, fu_at, at_fuC hj, at_fuC hj]
  · simp only [hc, if_false]
    rw [fu_at, fu_at, at_fuC hj, at_fuC hj]
theorem backR_S {r : xR} {s i k : Nat} (hi : i < 10) (hk : k < 10) : fS (backR r s) i k = if i = hasN r s ∧ (k = 5 ∨ k = 6 ∨ k = 7) then 0 else fS r i k := by
  unfold backR freeR
  rw [fS_fuC hi hk, fS_fuS (by decide) hk, fS_fuS (by decide) hk, fS_fuS (by decide) hk]
  by_cases h : i = hasN r s
  · simp only [h, true_and]
    repeat' split
    all_goals first | rfl | omega
  · simp only [h, false_and, if_false]
theorem backR_C {r : xR} {s i k : Nat} (hm : hasN r s < 10) (hk : k < 10) : fC (backR r s) i k = if i = s ∧ k = 4 then 0 else fC r i k := by
  unfold backR freeR
  rw [fC_fuC (by decide) hk, fC_fuS hm (by decide), fC_fuS hm (by decide), fC_fuS hm (by decide)]
theorem backR_0 {r : xR} {s j : Nat} (hj : j < 16) : backR r s j = r j := by
  unfold backR freeR
  rw [at_fuC hj, at_fuS hj, at_fuS hj, at_fuS hj]
theorem comeR_S {r : xR} {m s i k : Nat} (hi : i < 10) (hk : k < 10) : fS (comeR r m s) i k = if i = m ∧ k = 5 then (s : Int) + 1 else if i = m ∧ (k = 6 ∨ k = 7) then 0 else fS r i k := by
  unfold comeR
  rw [fS_fuS (by decide) hk, fS_fuS (by decide) hk, fS_fuS (by decide) hk, fS_fuC hi hk]
  by_cases h : i = m
  · simp only [h, true_and]
    repeat' split
    all_goals first | rfl | omega
  · simp only [h, false_and, if_false]
theorem comeR_C {r : xR} {m s i k : Nat} (hm : m < 10) (hk : k < 10) : fC (comeR r m s) i k = if i = s ∧ k = 4 then (m : Int) + 1 else fC r i k := by
  unfold comeR
  rw [fC_fuS hm (by decide), fC_fuS hm (by decide), fC_fuS hm (by decide), fC_fuC (by decide) hk]
theorem comeR_0 {r : xR} {m s j : Nat} (hj : j < 16) : comeR r m s j = r j := by
  unfold comeR
  rw [at_fuS hj, at_fuS hj, at_fuS hj, at_fuC hj]
theorem St.come {M : xM} {b m s : Nat} {r : xR} (h : St M b r) (hm : m < 10) (hs : s < 12) (hn : nS r ≤ 10 ∧ nC r ≤ 12) : St (mu (mu (mu (mu M (b + 13 + s) 4 (m : Int)) (b + 3 + m) 5 (s : Int)) (b + 3 + m) 6 0) (b + 3 + m) 7 0) b (comeR r m s) := by
  unfold comeR
  have h1 := h.setC (k := 4) (x := (m : Int) + 1) (y := (m : Int)) hs hn (by decide) (by omega)
  have h2 := h1.setG5 (x := (s : Int) + 1) (y := (s : Int)) hm (by rw [nS_fuC, nC_fuC]; exact hn) (by omega)
  have h3 := h2.setG (k := 6) (x := 0) hm (by rw [nS_fuS, nC_fuS, nS_fuC, nC_fuC]; exact hn) (by decide) (by decide)
  exact h3.setG (k := 7) (x := 0) hm (by rw [nS_fuS, nC_fuS, nS_fuS, nC_fuS, nS_fuC, nC_fuC]; exact hn) (by decide) (by decide)
theorem St.back {M : xM} {b s : Nat} {r : xR} (h : St M b r) (hm : hasN r s < 10) (hs : s < 12) (hn : nS r ≤ 10 ∧ nC r ≤ 12) : St (mu (mu (mu (mu M (b + 3 + hasN r s) 5 (-5)) (b + 3 + hasN r s) 6 0) (b + 3 + hasN r s) 7 0) (b + 13 + s) 4 (-5)) b (backR r s) := by
  unfold backR freeR
  have h1 := h.setG5 (x := 0) (y := -5) hm hn (by omega)
  have h2 := h1.setG (k := 6) (x := 0) hm (by rw [nS_fuS, nC_fuS]; exact hn) (by decide) (by decide)
  have h3 := h2.setG (k := 7) (x := 0) hm (by rw [nS_fuS, nC_fuS, nS_fuS, nC_fuS]; exact hn) (by decide) (by decide)
  exact h3.setC (k := 4) (x := 0) (y := -5) hs (by rw [nS_fuS, nC_fuS, nS_fuS, nC_fuS, nS_fuS, nC_fuS]; exact hn) (by decide) (by omega)
/-! that numbers stay within their bounds -/
theorem nS_of {r r' : xR} (h : r' 6 = r 6) : nS r' = nS r := by unfold nS; rw [h]
theorem nC_of {r r' : xR} (h : r' 7 = r 7) : nC r' = nC r := by unfold nC; rw [h]
theorem hasN_lt {r : xR} {s : Nat} {w d : Int} (h : Vb r w d) (hs : s < nC r) (h4 : 0 < fC r s 4) : hasN r s < nS r ∧ (hasN r s : Int) = fC r s 4 - 1 := by
  have h6 := h.n6
  obtain ⟨-, -, -, -, v4, -⟩ := h.2.2 s hs
  unfold hasN
  omega
theorem hrS_n {r : xR} {s : Nat} : nS (hrS r s) = nS r ∧ nC (hrS r s) = nC r ∧ hrS r s 0 = r 0 ∧ hrS r s 1 = r 1 ∧ hrS r s 2 = r 2 ∧ hrS r s 3 = r 3 := by
  unfold hrS
  split
  · refine ⟨nS_of (by rw [litR_0 (by decide)]; rfl), nC_of (by rw [litR_0 (by decide)]; rfl), ?_, ?_, ?_, ?_⟩ <;> (rw [litR_0 (by decide)]; rfl)
  · refine ⟨nS_of (by rw [darkR_0 (by decide)]; rfl), nC_of (by rw [darkR_0 (by decide)]; rfl), ?_, ?_, ?_, ?_⟩ <;> (rw [darkR_0 (by decide)]; rfl)
end
section
set_option maxHeartbeats 4000000 in
set_option maxRecDepth 100000 in
theorem c_X0_copyFrom (l : Launch) (D : xD) (Bs sz : Nat) (kd : xKd) (rf : xRf) (M : xM) (a o : Nat) (hC : IsC kd rf a) (hO : IsC kd rf o) (hne : o ≠ a) : CtV l D Bs yX0_copyFrom cX0_copyFrom 2 none 0 [.ref a, .ref o] sz kd rf M (fun M' => (∀ k, k < 9 → M' a k = M o k) ∧ ∀ q, q ≠ a → M' q = M q) := by
  refine Ctr.of (yv_X0_copyFrom.1.2.2.2.2) (List.forall_mem_cons.mpr ⟨rfl, List.forall_mem_cons.mpr ⟨rfl, fun _ h => absurd h List.not_mem_nil⟩⟩) (Nat.le_of_ble_eq_true rfl) [some (.ref a), some (.ref o)] rfl ?_
  intro p e s m args below meth c X hin
  refine G.aload_n X 1 dX0_copyFrom_0 rfl rfl ?_
  refine G.aload_n X 2 dX0_copyFrom_1 rfl rfl ?_
  refine G.getI X fl_X0_18 5 dX0_copyFrom_2 rfl (hO).1 ((hO).2 0) ?_
  try simp only [ms_ne hne]
  refine G.putI X fl_X0_18 fi_0_0 rfl 8 dX0_copyFrom_5 rfl (hC).1 ((hC).2 0) ?_
  simp only [mu, ms_ms, ms_same]
  refine G.aload_n X 9 dX0_copyFrom_8 rfl rfl ?_
  refine G.aload_n X 10 dX0_copyFrom_9 rfl rfl ?_
  refine G.getI X fl_X0_21 13 dX0_copyFrom_10 rfl (hO).1 ((hO).2 1) ?_
  try simp only [ms_ne hne]
  refine G.putI X fl_X0_21 fi_0_1 rfl 16 dX0_copyFrom_13 rfl (hC).1 ((hC).2 1) ?_
  simp only [mu, ms_ms, ms_same]
  refine G.aload_n X 17 dX0_copyFrom_16 rfl rfl ?_
  refine G.aload_n X 18 dX0_copyFrom_17 rfl rfl ?_
  refine G.getI X fl_X0_24 21 dX0_copyFrom_18 rfl (hO).1 ((hO).2 2) ?_
  try simp only [ms_ne hne]
  refine G.putI X fl_X0_24 fi_0_2 rfl 24 dX0_copyFrom_21 rfl (hC).1 ((hC).2 2) ?_
  simp only [mu, ms_ms, ms_same]
  refine G.aload_n X 25 dX0_copyFrom_24 rfl rfl ?_
  refine G.aload_n X 26 dX0_copyFrom_25 rfl rfl ?_
  refine G.getI X fl_X0_27 29 dX0_copyFrom_26 rfl (hO).1 ((hO).2 3) ?_
  try simp only [ms_ne hne]
  refine G.putI X fl_X0_27 fi_0_3 rfl 32 dX0_copyFrom_29 rfl (hC).1 ((hC).2 3) ?_
  simp only [mu, ms_ms, ms_same]
  refine G.aload_n X 33 dX0_copyFrom_32 rfl rfl ?_
  refine G.aload_n X 34 dX0_copyFrom_33 rfl rfl ?_
  refine G.getI X fl_X0_9 37 dX0_copyFrom_34 rfl (hO).1 ((hO).2 4) ?_
  try simp only [ms_ne hne]
  refine G.putI X fl_X0_9 fi_0_4 rfl 40 dX0_copyFrom_37 rfl (hC).1 ((hC).2 4) ?_
  simp only [mu, ms_ms, ms_same]
  refine G.aload_n X 41 dX0_copyFrom_40 rfl rfl ?_
  refine G.aload_n X 42 dX0_copyFrom_41 rfl rfl ?_
  refine G.getI X fl_X0_30 45 dX0_copyFrom_42 rfl (hO).1 ((hO).2 5) ?_
  try simp only [ms_ne hne]
  refine G.putI X fl_X0_30 fi_0_5 rfl 48 dX0_copyFrom_45 rfl (hC).1 ((hC).2 5) ?_
  simp only [mu, ms_ms, ms_same]
  refine G.aload_n X 49 dX0_copyFrom_48 rfl rfl ?_
  refine G.aload_n X 50 dX0_copyFrom_49 rfl rfl ?_
  refine G.getI X fl_X0_33 53 dX0_copyFrom_50 rfl (hO).1 ((hO).2 6) ?_
  try simp only [ms_ne hne]
  refine G.putI X fl_X0_33 fi_0_6 rfl 56 dX0_copyFrom_53 rfl (hC).1 ((hC).2 6) ?_
  simp only [mu, ms_ms, ms_same]
  refine G.aload_n X 57 dX0_copyFrom_56 rfl rfl ?_
  refine G.aload_n X 58 dX0_copyFrom_57 rfl rfl ?_
  refine G.getI X fl_X0_36 61 dX0_copyFrom_58 rfl (hO).1 ((hO).2 7) ?_
  try simp only [ms_ne hne]
  refine G.putI X fl_X0_36 fi_0_7 rfl 64 dX0_copyFrom_61 rfl (hC).1 ((hC).2 7) ?_
  simp only [mu, ms_ms, ms_same]
  refine G.aload_n X 65 dX0_copyFrom_64 rfl rfl ?_
  refine G.aload_n X 66 dX0_copyFrom_65 rfl rfl ?_
  refine G.getI X fl_X0_15 69 dX0_copyFrom_66 rfl (hO).1 ((hO).2 8) ?_
  try simp only [ms_ne hne]
  refine G.putI X fl_X0_15 fi_0_8 rfl 72 dX0_copyFrom_69 rfl (hC).1 ((hC).2 8) ?_
  simp only [mu, ms_ms, ms_same]
  refine G.vret X dX0_copyFrom_72 ⟨Nat.le_refl _, Nat.le_refl _⟩ ⟨rfl, rfl, rfl, rfl, ?_⟩
  refine ⟨fun k hk => ?_, fun q hq => ms_ne hq⟩
  rw [ms_same]
  rcases (by omega : k = 0 ∨ k = 1 ∨ k = 2 ∨ k = 3 ∨ k = 4 ∨ k = 5 ∨ k = 6 ∨ k = 7 ∨ k = 8) with h | h | h | h | h | h | h | h | h <;> subst h <;> simp [fu]
set_option maxHeartbeats 4000000 in
set_option maxRecDepth 100000 in
theorem c_X0_begin (l : Launch) (D : xD) (Bs sz : Nat) (kd : xKd) (rf : xRf) (M : xM) (a : Nat) (x0 x1 x2 x3 : Int) (hC : IsC kd rf a) : CtV l D Bs yX0_begin cX0_begin 5 none 0 [.ref a, vi x0, vi x1, vi x2, vi x3] sz kd rf M (fun M' => (M' a 0 = x0 ∧ M' a 1 = x1 ∧ M' a 2 = x2 ∧ M' a 3 = x3 ∧ M' a 4 = -5 ∧ M' a 5 = 0 ∧ M' a 6 = 0 ∧ M' a 7 = 0 ∧ M' a 8 = -5) ∧ ∀ q, q ≠ a → M' q = M q) := by
  refine Ctr.of (yv_X0_begin.1.2.2.2.2) (List.forall_mem_cons.mpr ⟨rfl, List.forall_mem_cons.mpr ⟨rfl, List.forall_mem_cons.mpr ⟨rfl, List.forall_mem_cons.mpr ⟨rfl, List.forall_mem_cons.mpr ⟨rfl, fun _ h => absurd h List.not_mem_nil⟩⟩⟩⟩⟩) (Nat.le_of_ble_eq_true rfl) [some (.ref a), some (vi x0), some (vi x1), some (vi x2), some (vi x3)] rfl ?_
  intro p e s m args below meth c X hin
  refine G.aload_n X 1 dX0_begin_0 rfl rfl ?_
  refine G.iload_n X 2 dX0_begin_1 rfl rfl ?_
  refine G.putI X fl_X0_18 fi_0_0 rfl 5 dX0_begin_2 rfl (hC).1 ((hC).2 0) ?_
  simp only [mu, ms_ms, ms_same]
  refine G.aload_n X 6 dX0_begin_5 rfl rfl ?_
  refine G.iload_n X 7 dX0_begin_6 rfl rfl ?_
  refine G.putI X fl_X0_21 fi_0_1 rfl 10 dX0_begin_7 rfl (hC).1 ((hC).2 1) ?_
  simp only [mu, ms_ms, ms_same]
  refine G.aload_n X 11 dX0_begin_10 rfl rfl ?_
  refine G.iload_n X 12 dX0_begin_11 rfl rfl ?_
  refine G.putI X fl_X0_24 fi_0_2 rfl 15 dX0_begin_12 rfl (hC).1 ((hC).2 2) ?_
  simp only [mu, ms_ms, ms_same]
  refine G.aload_n X 16 dX0_begin_15 rfl rfl ?_
  refine G.iload X 18 dX0_begin_16 rfl rfl ?_
  refine G.putI X fl_X0_27 fi_0_3 rfl 21 dX0_begin_18 rfl (hC).1 ((hC).2 3) ?_
  simp only [mu, ms_ms, ms_same]
  refine G.aload_n X 22 dX0_begin_21 rfl rfl ?_
  refine G.bipush X 24 dX0_begin_22 rfl (by decide) ?_
  refine G.putI X fl_X0_9 fi_0_4 rfl 27 dX0_begin_24 rfl (hC).1 ((hC).2 4) ?_
  simp only [mu, ms_ms, ms_same]
  refine G.aload_n X 28 dX0_begin_27 rfl rfl ?_
  refine G.iconst X 29 dX0_begin_28 rfl ?_
  refine G.putI X fl_X0_30 fi_0_5 rfl 32 dX0_begin_29 rfl (hC).1 ((hC).2 5) ?_
  simp only [mu, ms_ms, ms_same]
  refine G.aload_n X 33 dX0_begin_32 rfl rfl ?_
  refine G.iconst X 34 dX0_begin_33 rfl ?_
  refine G.putI X fl_X0_33 fi_0_6 rfl 37 dX0_begin_34 rfl (hC).1 ((hC).2 6) ?_
  simp only [mu, ms_ms, ms_same]
  refine G.aload_n X 38 dX0_begin_37 rfl rfl ?_
  refine G.iconst X 39 dX0_begin_38 rfl ?_
  refine G.putI X fl_X0_36 fi_0_7 rfl 42 dX0_begin_39 rfl (hC).1 ((hC).2 7) ?_
  simp only [mu, ms_ms, ms_same]
  refine G.aload_n X 43 dX0_begin_42 rfl rfl ?_
  refine G.bipush X 45 dX0_begin_43 rfl (by decide) ?_
  refine G.putI X fl_X0_15 fi_0_8 rfl 48 dX0_begin_45 rfl (hC).1 ((hC).2 8) ?_
  simp only [mu, ms_ms, ms_same]
  refine G.vret X dX0_begin_48 ⟨Nat.le_refl _, Nat.le_refl _⟩ ⟨rfl, rfl, rfl, rfl, ?_⟩
  refine ⟨?_, fun q hq => ms_ne hq⟩
  simp [ms_same, fu]
set_option maxHeartbeats 4000000 in
set_option maxRecDepth 100000 in
theorem c_X0_isOpenIn (l : Launch) (D : xD) (Bs sz : Nat) (kd : xKd) (rf : xRf) (M : xM) (a : Nat) (h : Int) (hC : IsC kd rf a) (r0 : IR h) (r1 : IR (M a 2)) (r2 : IR (M a 3)) : CtI l D Bs yX0_isOpenIn cX0_isOpenIn 2 (some .boolean) 0 [.ref a, vi h] sz kd rf M (fun r M' => r = bi (M a 2 ≤ h ∧ h < M a 3) ∧ M' = M) := by
  refine Ctr.of (yv_X0_isOpenIn.1.2.2.2.2) (List.forall_mem_cons.mpr ⟨rfl, List.forall_mem_cons.mpr ⟨rfl, fun _ h => absurd h List.not_mem_nil⟩⟩) (Nat.le_of_ble_eq_true rfl) [some (.ref a), some (vi h)] rfl ?_
  intro p e s m args below meth c X hin
  refine G.aload_n X 1 dX0_isOpenIn_0 rfl rfl ?_
  refine G.getI X fl_X0_24 4 dX0_isOpenIn_1 rfl (hC).1 ((hC).2 2) ?_
  refine G.iload_n X 5 dX0_isOpenIn_4 rfl rfl ?_
  refine G.icmp_gt X 20 8 dX0_isOpenIn_5 (by decide) rfl (by omega) (by omega) (fun hc5 => ?_) (fun hc5 => ?_)
  · refine G.iconst X 21 dX0_isOpenIn_20 rfl ?_
    refine G.zret X dX0_isOpenIn_21 ⟨Nat.le_refl _, Nat.le_refl _⟩ (Or.inl rfl) ⟨rfl, rfl, rfl, _, rfl, ?_⟩
    exact ⟨(bi_f (by omega)).symm, rfl⟩
  · refine G.iload_n X 9 dX0_isOpenIn_8 rfl rfl ?_
    refine G.aload_n X 10 dX0_isOpenIn_9 rfl rfl ?_
    refine G.getI X fl_X0_27 13 dX0_isOpenIn_10 rfl (hC).1 ((hC).2 3) ?_
    refine G.icmp_ge X 20 16 dX0_isOpenIn_13 (by decide) rfl (by omega) (by omega) (fun hc13 => ?_) (fun hc13 => ?_)
    · refine G.iconst X 21 dX0_isOpenIn_20 rfl ?_
      refine G.zret X dX0_isOpenIn_21 ⟨Nat.le_refl _, Nat.le_refl _⟩ (Or.inl rfl) ⟨rfl, rfl, rfl, _, rfl, ?_⟩
      exact ⟨(bi_f (by omega)).symm, rfl⟩
    · refine G.iconst X 17 dX0_isOpenIn_16 rfl ?_
      refine G.goto X 21 dX0_isOpenIn_17 (by decide) ?_
      refine G.zret X dX0_isOpenIn_21 ⟨Nat.le_refl _, Nat.le_refl _⟩ (Or.inr rfl) ⟨rfl, rfl, rfl, _, rfl, ?_⟩
      exact ⟨(bi_t (by omega)).symm, rfl⟩
set_option maxHeartbeats 4000000 in
set_option maxRecDepth 100000 in
theorem c_X0_needsMoreThan (l : Launch) (D : xD) (Bs sz : Nat) (kd : xKd) (rf : xRf) (M : xM) (a o : Nat) (hC : IsC kd rf a) (hO : IsC kd rf o) (r1 : IR (M a 0)) (r2 : IR (M a 1)) (r3 : IR (M o 0)) (r4 : IR (M o 1)) : CtI l D Bs yX0_needsMoreThan cX0_needsMoreThan 2 (some .boolean) 0 [.ref a, .ref o] sz kd rf M (fun r M' => r = bi (M o 0 < M a 0 ∨ M a 0 = M o 0 ∧ M o 1 < M a 1) ∧ M' = M) := by
  refine Ctr.of (yv_X0_needsMoreThan.1.2.2.2.2) (List.forall_mem_cons.mpr ⟨rfl, List.forall_mem_cons.mpr ⟨rfl, fun _ h => absurd h List.not_mem_nil⟩⟩) (Nat.le_of_ble_eq_true rfl) [some (.ref a), some (.ref o)] rfl ?_
  intro p e s m args below meth c X hin
  refine G.aload_n X 1 dX0_needsMoreThan_0 rfl rfl ?_
  refine G.getI X fl_X0_18 4 dX0_needsMoreThan_1 rfl (hC).1 ((hC).2 0) ?_
  refine G.aload_n X 5 dX0_needsMoreThan_4 rfl rfl ?_
  refine G.getI X fl_X0_18 8 dX0_needsMoreThan_5 rfl (hO).1 ((hO).2 0) ?_
  refine G.icmp_gt X 33 11 dX0_needsMoreThan_8 (by decide) rfl (by omega) (by omega) (fun hc8 => ?_) (fun hc8 => ?_)
  · refine G.iconst X 34 dX0_needsMoreThan_33 rfl ?_
    refine G.goto X 38 dX0_needsMoreThan_34 (by decide) ?_
    refine G.zret X dX0_needsMoreThan_38 ⟨Nat.le_refl _, Nat.le_refl _⟩ (Or.inr rfl) ⟨rfl, rfl, rfl, _, rfl, ?_⟩
    exact ⟨(bi_t (by omega)).symm, rfl⟩
  · refine G.aload_n X 12 dX0_needsMoreThan_11 rfl rfl ?_
    refine G.getI X fl_X0_18 15 dX0_needsMoreThan_12 rfl (hC).1 ((hC).2 0) ?_
    refine G.aload_n X 16 dX0_needsMoreThan_15 rfl rfl ?_
    refine G.getI X fl_X0_18 19 dX0_needsMoreThan_16 rfl (hO).1 ((hO).2 0) ?_
    refine G.icmp_ne X 37 22 dX0_needsMoreThan_19 (by decide) rfl (by omega) (by omega) (fun hc19 => ?_) (fun hc19 => ?_)
    · refine G.iconst X 38 dX0_needsMoreThan_37 rfl ?_
      refine G.zret X dX0_needsMoreThan_38 ⟨Nat.le_refl _, Nat.le_refl _⟩ (Or.inl rfl) ⟨rfl, rfl, rfl, _, rfl, ?_⟩
      exact ⟨(bi_f (by omega)).symm, rfl⟩
    · refine G.aload_n X 23 dX0_needsMoreThan_22 rfl rfl ?_
      refine G.getI X fl_X0_21 26 dX0_needsMoreThan_23 rfl (hC).1 ((hC).2 1) ?_
      refine G.aload_n X 27 dX0_needsMoreThan_26 rfl rfl ?_
      refine G.getI X fl_X0_21 30 dX0_needsMoreThan_27 rfl (hO).1 ((hO).2 1) ?_
      refine G.icmp_le X 37 33 dX0_needsMoreThan_30 (by decide) rfl (by omega) (by omega) (fun hc30 => ?_) (fun hc30 => ?_)
      · refine G.iconst X 38 dX0_needsMoreThan_37 rfl ?_
        refine G.zret X dX0_needsMoreThan_38 ⟨Nat.le_refl _, Nat.le_refl _⟩ (Or.inl rfl) ⟨rfl, rfl, rfl, _, rfl, ?_⟩
        exact ⟨(bi_f (by omega)).symm, rfl⟩
      · refine G.iconst X 34 dX0_needsMoreThan_33 rfl ?_
        refine G.goto X 38 dX0_needsMoreThan_34 (by decide) ?_
        refine G.zret X dX0_needsMoreThan_38 ⟨Nat.le_refl _, Nat.le_refl _⟩ (Or.inr rfl) ⟨rfl, rfl, rfl, _, rfl, ?_⟩
        exact ⟨(bi_t (by omega)).symm, rfl⟩
set_option maxHeartbeats 4000000 in
set_option maxRecDepth 100000 in
theorem c_X0_darken (l : Launch) (D : xD) (Bs sz : Nat) (kd : xKd) (rf : xRf) (M : xM) (a : Nat) (x : Int) (hC : IsC kd rf a) : CtV l D Bs yX0_darken cX0_darken 2 none 0 [.ref a, vi x] sz kd rf M (fun M' => M' = mu (mu M a 6 (M a 6 + 1)) a 8 x) := by
  refine Ctr.of (yv_X0_darken.1.2.2.2.2) (List.forall_mem_cons.mpr ⟨rfl, List.forall_mem_cons.mpr ⟨rfl, fun _ h => absurd h List.not_mem_nil⟩⟩) (Nat.le_of_ble_eq_true rfl) [some (.ref a), some (vi x)] rfl ?_
  intro p e s m args below meth c X hin
  refine G.aload_n X 1 dX0_darken_0 rfl rfl ?_
  refine G.dup X 2 dX0_darken_1 rfl rfl ?_
  refine G.getI X fl_X0_33 5 dX0_darken_2 rfl (hC).1 ((hC).2 6) ?_
  refine G.iconst X 6 dX0_darken_5 rfl ?_
  refine G.iadd X 7 dX0_darken_6 rfl ?_
  refine G.putI X fl_X0_33 fi_0_6 rfl 10 dX0_darken_7 rfl (hC).1 ((hC).2 6) ?_
  refine G.aload_n X 11 dX0_darken_10 rfl rfl ?_
  refine G.iload_n X 12 dX0_darken_11 rfl rfl ?_
  refine G.putI X fl_X0_15 fi_0_8 rfl 15 dX0_darken_12 rfl (hC).1 ((hC).2 8) ?_
  refine G.vret X dX0_darken_15 ⟨Nat.le_refl _, Nat.le_refl _⟩ ⟨rfl, rfl, rfl, rfl, ?_⟩
  rfl
set_option maxHeartbeats 4000000 in
set_option maxRecDepth 100000 in
theorem c_X0_light (l : Launch) (D : xD) (Bs sz : Nat) (kd : xKd) (rf : xRf) (M : xM) (a : Nat) (x : Int) (hC : IsC kd rf a) : CtV l D Bs yX0_light cX0_light 2 none 0 [.ref a, vi x] sz kd rf M (fun M' => M' = mu (mu M a 5 (M a 5 + 1)) a 7 (M a 7 + x)) := by
  refine Ctr.of (yv_X0_light.1.2.2.2.2) (List.forall_mem_cons.mpr ⟨rfl, List.forall_mem_cons.mpr ⟨rfl, fun _ h => absurd h List.not_mem_nil⟩⟩) (Nat.le_of_ble_eq_true rfl) [some (.ref a), some (vi x)] rfl ?_
  intro p e s m args below meth c X hin
  refine G.aload_n X 1 dX0_light_0 rfl rfl ?_
  refine G.dup X 2 dX0_light_1 rfl rfl ?_
  refine G.getI X fl_X0_30 5 dX0_light_2 rfl (hC).1 ((hC).2 5) ?_
  refine G.iconst X 6 dX0_light_5 rfl ?_
  refine G.iadd X 7 dX0_light_6 rfl ?_
  refine G.putI X fl_X0_30 fi_0_5 rfl 10 dX0_light_7 rfl (hC).1 ((hC).2 5) ?_
  refine G.aload_n X 11 dX0_light_10 rfl rfl ?_
  refine G.dup X 12 dX0_light_11 rfl rfl ?_
  refine G.getI X fl_X0_36 15 dX0_light_12 rfl (hC).1 ((hC).2 7) ?_
  refine G.iload_n X 16 dX0_light_15 rfl rfl ?_
  refine G.iadd X 17 dX0_light_16 rfl ?_
  refine G.putI X fl_X0_36 fi_0_7 rfl 20 dX0_light_17 rfl (hC).1 ((hC).2 7) ?_
  refine G.vret X dX0_light_20 ⟨Nat.le_refl _, Nat.le_refl _⟩ ⟨rfl, rfl, rfl, rfl, ?_⟩
  rw [mu_ne (a' := a) (k' := 7) (Or.inr (by decide))]
set_option maxHeartbeats 4000000 in
set_option maxRecDepth 100000 in
theorem c_X1_copyFrom (l : Launch) (D : xD) (Bs sz : Nat) (kd : xKd) (rf : xRf) (M : xM) (a o : Nat) (hG : IsG kd rf a) (hO : IsG kd rf o) (hne : o ≠ a) : CtV l D Bs yX1_copyFrom cX1_copyFrom 2 none 0 [.ref a, .ref o] sz kd rf M (fun M' => (∀ k, k < 9 → M' a k = M o k) ∧ ∀ q, q ≠ a → M' q = M q) := by
  refine Ctr.of (yv_X1_copyFrom.1.2.2.2.2) (List.forall_mem_cons.mpr ⟨rfl, List.forall_mem_cons.mpr ⟨rfl, fun _ h => absurd h List.not_mem_nil⟩⟩) (Nat.le_of_ble_eq_true rfl) [some (.ref a), some (.ref o)] rfl ?_
  intro p e s m args below meth c X hin
  refine G.okd (fun hok => ?_)
  refine G.aload_n X 1 dX1_copyFrom_0 rfl rfl ?_
  refine G.aload_n X 2 dX1_copyFrom_1 rfl rfl ?_
  refine G.getI X fl_X1_15 5 dX1_copyFrom_2 rfl (hO).1 ((hO).2 0) ?_
  try simp only [ms_ne hne]
  refine G.putI X fl_X1_15 fi_1_0 rfl 8 dX1_copyFrom_5 rfl (hG).1 ((hG).2 0) ?_
  simp only [mu, ms_ms, ms_same]
  refine G.aload_n X 9 dX1_copyFrom_8 rfl rfl ?_
  refine G.aload_n X 10 dX1_copyFrom_9 rfl rfl ?_
  refine G.getI X fl_X1_18 13 dX1_copyFrom_10 rfl (hO).1 ((hO).2 1) ?_
  try simp only [ms_ne hne]
  refine G.putI X fl_X1_18 fi_1_1 rfl 16 dX1_copyFrom_13 rfl (hG).1 ((hG).2 1) ?_
  simp only [mu, ms_ms, ms_same]
  refine G.aload_n X 17 dX1_copyFrom_16 rfl rfl ?_
  refine G.aload_n X 18 dX1_copyFrom_17 rfl rfl ?_
  refine G.getI X fl_X1_21 21 dX1_copyFrom_18 rfl (hO).1 ((hO).2 2) ?_
  try simp only [ms_ne hne]
  refine G.putI X fl_X1_21 fi_1_2 rfl 24 dX1_copyFrom_21 rfl (hG).1 ((hG).2 2) ?_
  simp only [mu, ms_ms, ms_same]
  refine G.aload_n X 25 dX1_copyFrom_24 rfl rfl ?_
  refine G.aload_n X 26 dX1_copyFrom_25 rfl rfl ?_
  refine G.getI X fl_X1_24 29 dX1_copyFrom_26 rfl (hO).1 ((hO).2 3) ?_
  try simp only [ms_ne hne]
  refine G.putI X fl_X1_24 fi_1_3 rfl 32 dX1_copyFrom_29 rfl (hG).1 ((hG).2 3) ?_
  simp only [mu, ms_ms, ms_same]
  refine G.aload_n X 33 dX1_copyFrom_32 rfl rfl ?_
  refine G.aload_n X 34 dX1_copyFrom_33 rfl rfl ?_
  refine G.getI X fl_X1_27 37 dX1_copyFrom_34 rfl (hO).1 ((hO).2 4) ?_
  try simp only [ms_ne hne]
  refine G.putI X fl_X1_27 fi_1_4 rfl 40 dX1_copyFrom_37 rfl (hG).1 ((hG).2 4) ?_
  simp only [mu, ms_ms, ms_same]
  refine G.aload_n X 41 dX1_copyFrom_40 rfl rfl ?_
  refine G.aload_n X 42 dX1_copyFrom_41 rfl rfl ?_
  refine G.getI X fl_X1_9 45 dX1_copyFrom_42 rfl (hO).1 ((hO).2 5) ?_
  try simp only [ms_ne hne]
  refine G.putI X fl_X1_9 fi_1_5 rfl 48 dX1_copyFrom_45 rfl (hG).1 ((hG).2 5) ?_
  simp only [mu, ms_ms, ms_same]
  refine G.aload_n X 49 dX1_copyFrom_48 rfl rfl ?_
  refine G.aload_n X 50 dX1_copyFrom_49 rfl rfl ?_
  refine G.getI X fl_X1_30 53 dX1_copyFrom_50 rfl (hO).1 ((hO).2 6) ?_
  try simp only [ms_ne hne]
  refine G.putZ X fl_X1_30 fi_1_6 56 dX1_copyFrom_53 rfl (hG).1 ((hG).2 6) (hok.1 o 1 6 hO.1 rfl) ?_
  simp only [mu, ms_ms, ms_same]
  refine G.aload_n X 57 dX1_copyFrom_56 rfl rfl ?_
  refine G.aload_n X 58 dX1_copyFrom_57 rfl rfl ?_
  refine G.getI X fl_X1_34 61 dX1_copyFrom_58 rfl (hO).1 ((hO).2 7) ?_
  try simp only [ms_ne hne]
  refine G.putI X fl_X1_34 fi_1_7 rfl 64 dX1_copyFrom_61 rfl (hG).1 ((hG).2 7) ?_
  simp only [mu, ms_ms, ms_same]
  refine G.aload_n X 65 dX1_copyFrom_64 rfl rfl ?_
  refine G.aload_n X 66 dX1_copyFrom_65 rfl rfl ?_
  refine G.getI X fl_X1_37 69 dX1_copyFrom_66 rfl (hO).1 ((hO).2 8) ?_
  try simp only [ms_ne hne]
  refine G.putI X fl_X1_37 fi_1_8 rfl 72 dX1_copyFrom_69 rfl (hG).1 ((hG).2 8) ?_
  simp only [mu, ms_ms, ms_same]
  refine G.vret X dX1_copyFrom_72 ⟨Nat.le_refl _, Nat.le_refl _⟩ ⟨rfl, rfl, rfl, rfl, ?_⟩
  refine ⟨fun k hk => ?_, fun q hq => ms_ne hq⟩
  rw [ms_same]
  rcases (by omega : k = 0 ∨ k = 1 ∨ k = 2 ∨ k = 3 ∨ k = 4 ∨ k = 5 ∨ k = 6 ∨ k = 7 ∨ k = 8) with h | h | h | h | h | h | h | h | h <;> subst h <;> simp [fu]
set_option maxHeartbeats 4000000 in
set_option maxRecDepth 100000 in
theorem c_X1_room (l : Launch) (D : xD) (Bs sz : Nat) (kd : xKd) (rf : xRf) (M : xM) (a : Nat) (hG : IsG kd rf a) : CtI l D Bs yX1_room cX1_room 1 (some .int) 0 [.ref a] sz kd rf M (fun r M' => r = M a 1 - M a 4 ∧ M' = M) := by
  refine Ctr.of (yv_X1_room.1.2.2.2.2) (List.forall_mem_cons.mpr ⟨rfl, fun _ h => absurd h List.not_mem_nil⟩) (Nat.le_of_ble_eq_true rfl) [some (.ref a)] rfl ?_
  intro p e s m args below meth c X hin
  refine G.aload_n X 1 dX1_room_0 rfl rfl ?_
  refine G.getI X fl_X1_18 4 dX1_room_1 rfl (hG).1 ((hG).2 1) ?_
  refine G.aload_n X 5 dX1_room_4 rfl rfl ?_
  refine G.getI X fl_X1_27 8 dX1_room_5 rfl (hG).1 ((hG).2 4) ?_
  refine G.isub X 9 dX1_room_8 rfl ?_
  refine G.iret X dX1_room_9 ⟨Nat.le_refl _, Nat.le_refl _⟩ ⟨rfl, rfl, rfl, _, rfl, ?_⟩
  exact ⟨rfl, rfl⟩
set_option maxHeartbeats 4000000 in
set_option maxRecDepth 100000 in
theorem c_X1_hoursLeft (l : Launch) (D : xD) (Bs sz : Nat) (kd : xKd) (rf : xRf) (M : xM) (a : Nat) (hG : IsG kd rf a) (h1 : 0 ≤ M a 4 ∧ M a 4 ≤ 2147483647) (h2 : 0 < M a 2 ∧ M a 2 ≤ 2147483647) : CtI l D Bs yX1_hoursLeft cX1_hoursLeft 1 (some .int) 0 [.ref a] sz kd rf M (fun r M' => r = M a 4 / M a 2 ∧ M' = M) := by
  refine Ctr.of (yv_X1_hoursLeft.1.2.2.2.2) (List.forall_mem_cons.mpr ⟨rfl, fun _ h => absurd h List.not_mem_nil⟩) (Nat.le_of_ble_eq_true rfl) [some (.ref a)] rfl ?_
  intro p e s m args below meth c X hin
  refine G.aload_n X 1 dX1_hoursLeft_0 rfl rfl ?_
  refine G.getI X fl_X1_21 4 dX1_hoursLeft_1 rfl (hG).1 ((hG).2 2) ?_
  refine G.if_le X 19 7 dX1_hoursLeft_4 (by decide) rfl (by omega) (fun hc4 => ?_) (fun hc4 => ?_)
  · refine G.iconst X 20 dX1_hoursLeft_19 rfl ?_
    refine G.iret X dX1_hoursLeft_20 ⟨Nat.le_refl _, Nat.le_refl _⟩ ⟨rfl, rfl, rfl, _, rfl, ?_⟩
    first | exact ⟨rfl, rfl⟩ | (exfalso; omega)
  · refine G.aload_n X 8 dX1_hoursLeft_7 rfl rfl ?_
    refine G.getI X fl_X1_27 11 dX1_hoursLeft_8 rfl (hG).1 ((hG).2 4) ?_
    refine G.aload_n X 12 dX1_hoursLeft_11 rfl rfl ?_
    refine G.getI X fl_X1_21 15 dX1_hoursLeft_12 rfl (hG).1 ((hG).2 2) ?_
    refine G.idivI X 16 dX1_hoursLeft_15 rfl (by omega) (by omega) ?_
    refine G.goto X 20 dX1_hoursLeft_16 (by decide) ?_
    refine G.iret X dX1_hoursLeft_20 ⟨Nat.le_refl _, Nat.le_refl _⟩ ⟨rfl, rfl, rfl, _, rfl, ?_⟩
    first | exact ⟨rfl, rfl⟩ | (exfalso; omega)
set_option maxHeartbeats 4000000 in
set_option maxRecDepth 100000 in
theorem c_X1_moveTo (l : Launch) (D : xD) (Bs sz : Nat) (kd : xKd) (rf : xRf) (M : xM) (a : Nat) (x : Int) (hG : IsG kd rf a) : CtV l D Bs yX1_moveTo cX1_moveTo 2 none 0 [.ref a, vi x] sz kd rf M (fun M' => M' = mu (mu (mu M a 5 x) a 6 0) a 7 0) := by
  refine Ctr.of (yv_X1_moveTo.1.2.2.2.2) (List.forall_mem_cons.mpr ⟨rfl, List.forall_mem_cons.mpr ⟨rfl, fun _ h => absurd h List.not_mem_nil⟩⟩) (Nat.le_of_ble_eq_true rfl) [some (.ref a), some (vi x)] rfl ?_
  intro p e s m args below meth c X hin
  refine G.aload_n X 1 dX1_moveTo_0 rfl rfl ?_
  refine G.iload_n X 2 dX1_moveTo_1 rfl rfl ?_
  refine G.putI X fl_X1_9 fi_1_5 rfl 5 dX1_moveTo_2 rfl (hG).1 ((hG).2 5) ?_
  refine G.aload_n X 6 dX1_moveTo_5 rfl rfl ?_
  refine G.iconst X 7 dX1_moveTo_6 rfl ?_
  refine G.putZ X fl_X1_30 fi_1_6 10 dX1_moveTo_7 rfl (hG).1 ((hG).2 6) (Or.inl rfl) ?_
  refine G.aload_n X 11 dX1_moveTo_10 rfl rfl ?_
  refine G.iconst X 12 dX1_moveTo_11 rfl ?_
  refine G.putI X fl_X1_34 fi_1_7 rfl 15 dX1_moveTo_12 rfl (hG).1 ((hG).2 7) ?_
  refine G.vret X dX1_moveTo_15 ⟨Nat.le_refl _, Nat.le_refl _⟩ ⟨rfl, rfl, rfl, rfl, ?_⟩
  rfl
set_option maxHeartbeats 4000000 in
set_option maxRecDepth 100000 in
theorem c_X1_causeAt (l : Launch) (D : xD) (Bs sz : Nat) (kd : xKd) (rf : xRf) (M : xM) (a : Nat) (t : Int) (hG : IsG kd rf a) (rt : -30 ≤ t ∧ t ≤ 20) (r3 : -30 ≤ M a 3 ∧ M a 3 ≤ 20) (r7 : 0 ≤ M a 7 ∧ M a 7 ≤ 20000) (r4 : IR (M a 4)) (r2 : IR (M a 2)) : CtI l D Bs yX1_causeAt cX1_causeAt 2 (some .int) 0 [.ref a, vi t] sz kd rf M (fun r M' => r = caF (M a) t ∧ M' = M) := by
  refine Ctr.of (yv_X1_causeAt.1.2.2.2.2) (List.forall_mem_cons.mpr ⟨rfl, List.forall_mem_cons.mpr ⟨rfl, fun _ h => absurd h List.not_mem_nil⟩⟩) (Nat.le_of_ble_eq_true rfl) [some (.ref a), some (vi t)] rfl ?_
  intro p e s m args below meth c X hin
  refine G.okd (fun hok => ?_)
  have h6 := hok.1 a 1 6 hG.1 rfl
  refine G.aload_n X 1 dX1_causeAt_0 rfl rfl ?_
  refine G.getI X fl_X1_30 4 dX1_causeAt_1 rfl (hG).1 ((hG).2 6) ?_
  refine G.if_eq X 9 7 dX1_causeAt_4 (by decide) rfl (by omega) (fun hc4 => ?_) (fun hc4 => ?_)
  · refine G.aload_n X 10 dX1_causeAt_9 rfl rfl ?_
    refine G.getI X fl_X1_27 13 dX1_causeAt_10 rfl (hG).1 ((hG).2 4) ?_
    refine G.aload_n X 14 dX1_causeAt_13 rfl rfl ?_
    refine G.getI X fl_X1_21 17 dX1_causeAt_14 rfl (hG).1 ((hG).2 2) ?_
    refine G.icmp_ge X 22 20 dX1_causeAt_17 (by decide) rfl (by omega) (by omega) (fun hc17 => ?_) (fun hc17 => ?_)
    · refine G.iload_n X 23 dX1_causeAt_22 rfl rfl ?_
      refine G.aload_n X 24 dX1_causeAt_23 rfl rfl ?_
      refine G.getI X fl_X1_24 27 dX1_causeAt_24 rfl (hG).1 ((hG).2 3) ?_
      refine G.icmp_ge X 49 30 dX1_causeAt_27 (by decide) rfl (by omega) (by omega) (fun hc27 => ?_) (fun hc27 => ?_)
      · refine G.iconst X 50 dX1_causeAt_49 rfl ?_
        refine G.iret X dX1_causeAt_50 ⟨Nat.le_refl _, Nat.le_refl _⟩ ⟨rfl, rfl, rfl, _, rfl, ?_⟩
        refine ⟨?_, rfl⟩
        unfold caF
        repeat' split
        all_goals first | rfl | (exfalso; omega)
      · refine G.aload_n X 31 dX1_causeAt_30 rfl rfl ?_
        refine G.getI X fl_X1_24 34 dX1_causeAt_31 rfl (hG).1 ((hG).2 3) ?_
        refine G.iload_n X 35 dX1_causeAt_34 rfl rfl ?_
        refine G.isub X 36 dX1_causeAt_35 rfl ?_
        refine G.iconst X 37 dX1_causeAt_36 rfl ?_
        refine G.aload_n X 38 dX1_causeAt_37 rfl rfl ?_
        refine G.getI X fl_X1_34 41 dX1_causeAt_38 rfl (hG).1 ((hG).2 7) ?_
        refine G.imul X 42 dX1_causeAt_41 rfl ?_
        refine G.icmp_le X 49 45 dX1_causeAt_42 (by decide) rfl (by omega) (by omega) (fun hc42 => ?_) (fun hc42 => ?_)
        · refine G.iconst X 50 dX1_causeAt_49 rfl ?_
          refine G.iret X dX1_causeAt_50 ⟨Nat.le_refl _, Nat.le_refl _⟩ ⟨rfl, rfl, rfl, _, rfl, ?_⟩
          refine ⟨?_, rfl⟩
          unfold caF
          repeat' split
          all_goals first | rfl | (exfalso; omega)
        · refine G.iconst X 46 dX1_causeAt_45 rfl ?_
          refine G.goto X 50 dX1_causeAt_46 (by decide) ?_
          refine G.iret X dX1_causeAt_50 ⟨Nat.le_refl _, Nat.le_refl _⟩ ⟨rfl, rfl, rfl, _, rfl, ?_⟩
          refine ⟨?_, rfl⟩
          unfold caF
          repeat' split
          all_goals first | rfl | (exfalso; omega)
    · refine G.iconst X 21 dX1_causeAt_20 rfl ?_
      refine G.iret X dX1_causeAt_21 ⟨Nat.le_refl _, Nat.le_refl _⟩ ⟨rfl, rfl, rfl, _, rfl, ?_⟩
      refine ⟨?_, rfl⟩
      unfold caF
      repeat' split
      all_goals first | rfl | (exfalso; omega)
  · refine G.iconst X 8 dX1_causeAt_7 rfl ?_
    refine G.iret X dX1_causeAt_8 ⟨Nat.le_refl _, Nat.le_refl _⟩ ⟨rfl, rfl, rfl, _, rfl, ?_⟩
    refine ⟨?_, rfl⟩
    unfold caF
    repeat' split
    all_goals first | rfl | (exfalso; omega)
set_option maxHeartbeats 4000000 in
set_option maxRecDepth 100000 in
theorem c_X1_burnHour (l : Launch) (D : xD) (Bs sz : Nat) (kd : xKd) (rf : xRf) (M : xM) (a : Nat) (hG : IsG kd rf a) (r4 : -1000 ≤ M a 4 ∧ M a 4 ≤ 1000) (r2 : -1000 ≤ M a 2 ∧ M a 2 ≤ 1000) : CtV l D Bs yX1_burnHour cX1_burnHour 1 none 0 [.ref a] sz kd rf M (fun M' => M' = mu (mu (mu M a 4 (M a 4 - M a 2)) a 8 (M a 8 + 1)) a 6 (bi (M a 2 ≤ M a 4 - M a 2))) := by
  refine Ctr.of (yv_X1_burnHour.1.2.2.2.2) (List.forall_mem_cons.mpr ⟨rfl, fun _ h => absurd h List.not_mem_nil⟩) (Nat.le_of_ble_eq_true rfl) [some (.ref a)] rfl ?_
  intro p e s m args below meth c X hin
  refine G.aload_n X 1 dX1_burnHour_0 rfl rfl ?_
  refine G.dup X 2 dX1_burnHour_1 rfl rfl ?_
  refine G.getI X fl_X1_27 5 dX1_burnHour_2 rfl (hG).1 ((hG).2 4) ?_
  try simp only [mu, ms_ms, ms_same, fu_at, Nat.reduceEqDiff, reduceIte]
  refine G.aload_n X 6 dX1_burnHour_5 rfl rfl ?_
  refine G.getI X fl_X1_21 9 dX1_burnHour_6 rfl (hG).1 ((hG).2 2) ?_
  try simp only [mu, ms_ms, ms_same, fu_at, Nat.reduceEqDiff, reduceIte]
  refine G.isub X 10 dX1_burnHour_9 rfl ?_
  refine G.putI X fl_X1_27 fi_1_4 rfl 13 dX1_burnHour_10 rfl (hG).1 ((hG).2 4) ?_
  refine G.aload_n X 14 dX1_burnHour_13 rfl rfl ?_
  refine G.dup X 15 dX1_burnHour_14 rfl rfl ?_
  refine G.getI X fl_X1_37 18 dX1_burnHour_15 rfl (hG).1 ((hG).2 8) ?_
  try simp only [mu, ms_ms, ms_same, fu_at, Nat.reduceEqDiff, reduceIte]
  refine G.iconst X 19 dX1_burnHour_18 rfl ?_
  refine G.iadd X 20 dX1_burnHour_19 rfl ?_
  refine G.putI X fl_X1_37 fi_1_8 rfl 23 dX1_burnHour_20 rfl (hG).1 ((hG).2 8) ?_
  refine G.aload_n X 24 dX1_burnHour_23 rfl rfl ?_
  refine G.aload_n X 25 dX1_burnHour_24 rfl rfl ?_
  refine G.getI X fl_X1_27 28 dX1_burnHour_25 rfl (hG).1 ((hG).2 4) ?_
  try simp only [mu, ms_ms, ms_same, fu_at, Nat.reduceEqDiff, reduceIte]
  refine G.aload_n X 29 dX1_burnHour_28 rfl rfl ?_
  refine G.getI X fl_X1_21 32 dX1_burnHour_29 rfl (hG).1 ((hG).2 2) ?_
  try simp only [mu, ms_ms, ms_same, fu_at, Nat.reduceEqDiff, reduceIte]
  refine G.icmp_lt X 39 35 dX1_burnHour_32 (by decide) rfl (by omega) (by omega) (fun hc32 => ?_) (fun hc32 => ?_)
  · refine G.iconst X 40 dX1_burnHour_39 rfl ?_
    refine G.putZ X fl_X1_30 fi_1_6 43 dX1_burnHour_40 rfl (hG).1 ((hG).2 6) (Or.inl rfl) ?_
    refine G.vret X dX1_burnHour_43 ⟨Nat.le_refl _, Nat.le_refl _⟩ ⟨rfl, rfl, rfl, rfl, ?_⟩
    simp only [mu, ms_ms, ms_same]
    first | rw [bi_t (by omega)] | rw [bi_f (by omega)]
  · refine G.iconst X 36 dX1_burnHour_35 rfl ?_
    refine G.goto X 40 dX1_burnHour_36 (by decide) ?_
    refine G.putZ X fl_X1_30 fi_1_6 43 dX1_burnHour_40 rfl (hG).1 ((hG).2 6) (Or.inr rfl) ?_
    refine G.vret X dX1_burnHour_43 ⟨Nat.le_refl _, Nat.le_refl _⟩ ⟨rfl, rfl, rfl, rfl, ?_⟩
    simp only [mu, ms_ms, ms_same]
    first | rw [bi_t (by omega)] | rw [bi_f (by omega)]
end
section
set_option maxHeartbeats 4000000 in
set_option maxRecDepth 100000 in
theorem c_X4_isSet (l : Launch) (D : xD) (Bs sz : Nat) (kd : xKd) (rf : xRf) (M : xM) (b : Nat) (x : Int) (hS : ShSt kd rf b) (r0 : IR x) (r1 : IR (M b 7)) : CtI l D Bs yX4_isSet cX4_isSet 2 (some .boolean) 0 [.ref b, vi x] sz kd rf M (fun r M' => r = bi (0 ≤ x ∧ x < M b 7) ∧ M' = M) := by
  refine Ctr.of (yv_X4_isSet.1.2.2.2.2) (List.forall_mem_cons.mpr ⟨rfl, List.forall_mem_cons.mpr ⟨rfl, fun _ h => absurd h List.not_mem_nil⟩⟩) (Nat.le_of_ble_eq_true rfl) [some (.ref b), some (vi x)] rfl ?_
  intro p e s m args below meth c X hin
  refine G.iload_n X 1 dX4_isSet_0 rfl rfl ?_
  refine G.if_lt X 16 4 dX4_isSet_1 (by decide) rfl (by omega) (fun hc1 => ?_) (fun hc1 => ?_)
  · refine G.iconst X 17 dX4_isSet_16 rfl ?_
    refine G.zret X dX4_isSet_17 ⟨Nat.le_refl _, Nat.le_refl _⟩ (Or.inl rfl) ⟨rfl, rfl, rfl, _, rfl, ?_⟩
    exact ⟨(bi_f (by omega)).symm, rfl⟩
  · refine G.iload_n X 5 dX4_isSet_4 rfl rfl ?_
    refine G.aload_n X 6 dX4_isSet_5 rfl rfl ?_
    refine G.getI X fl_X4_47 9 dX4_isSet_6 rfl (hS).1 ((hS).2.1 7 (by decide)) ?_
    refine G.icmp_ge X 16 12 dX4_isSet_9 (by decide) rfl (by omega) (by omega) (fun hc9 => ?_) (fun hc9 => ?_)
    · refine G.iconst X 17 dX4_isSet_16 rfl ?_
      refine G.zret X dX4_isSet_17 ⟨Nat.le_refl _, Nat.le_refl _⟩ (Or.inl rfl) ⟨rfl, rfl, rfl, _, rfl, ?_⟩
      exact ⟨(bi_f (by omega)).symm, rfl⟩
    · refine G.iconst X 13 dX4_isSet_12 rfl ?_
      refine G.goto X 17 dX4_isSet_13 (by decide) ?_
      refine G.zret X dX4_isSet_17 ⟨Nat.le_refl _, Nat.le_refl _⟩ (Or.inr rfl) ⟨rfl, rfl, rfl, _, rfl, ?_⟩
      exact ⟨(bi_t (by omega)).symm, rfl⟩
set_option maxHeartbeats 4000000 in
set_option maxRecDepth 100000 in
theorem c_X4_isSite (l : Launch) (D : xD) (Bs sz : Nat) (kd : xKd) (rf : xRf) (M : xM) (b : Nat) (x : Int) (hS : ShSt kd rf b) (r0 : IR x) (r1 : IR (M b 8)) : CtI l D Bs yX4_isSite cX4_isSite 2 (some .boolean) 0 [.ref b, vi x] sz kd rf M (fun r M' => r = bi (0 ≤ x ∧ x < M b 8) ∧ M' = M) := by
  refine Ctr.of (yv_X4_isSite.1.2.2.2.2) (List.forall_mem_cons.mpr ⟨rfl, List.forall_mem_cons.mpr ⟨rfl, fun _ h => absurd h List.not_mem_nil⟩⟩) (Nat.le_of_ble_eq_true rfl) [some (.ref b), some (vi x)] rfl ?_
  intro p e s m args below meth c X hin
  refine G.iload_n X 1 dX4_isSite_0 rfl rfl ?_
  refine G.if_lt X 16 4 dX4_isSite_1 (by decide) rfl (by omega) (fun hc1 => ?_) (fun hc1 => ?_)
  · refine G.iconst X 17 dX4_isSite_16 rfl ?_
    refine G.zret X dX4_isSite_17 ⟨Nat.le_refl _, Nat.le_refl _⟩ (Or.inl rfl) ⟨rfl, rfl, rfl, _, rfl, ?_⟩
    exact ⟨(bi_f (by omega)).symm, rfl⟩
  · refine G.iload_n X 5 dX4_isSite_4 rfl rfl ?_
    refine G.aload_n X 6 dX4_isSite_5 rfl rfl ?_
    refine G.getI X fl_X4_50 9 dX4_isSite_6 rfl (hS).1 ((hS).2.1 8 (by decide)) ?_
    refine G.icmp_ge X 16 12 dX4_isSite_9 (by decide) rfl (by omega) (by omega) (fun hc9 => ?_) (fun hc9 => ?_)
    · refine G.iconst X 17 dX4_isSite_16 rfl ?_
      refine G.zret X dX4_isSite_17 ⟨Nat.le_refl _, Nat.le_refl _⟩ (Or.inl rfl) ⟨rfl, rfl, rfl, _, rfl, ?_⟩
      exact ⟨(bi_f (by omega)).symm, rfl⟩
    · refine G.iconst X 13 dX4_isSite_12 rfl ?_
      refine G.goto X 17 dX4_isSite_13 (by decide) ?_
      refine G.zret X dX4_isSite_17 ⟨Nat.le_refl _, Nat.le_refl _⟩ (Or.inr rfl) ⟨rfl, rfl, rfl, _, rfl, ?_⟩
      exact ⟨(bi_t (by omega)).symm, rfl⟩
set_option maxHeartbeats 4000000 in
set_option maxRecDepth 100000 in
theorem c_X5_isWithin (l : Launch) (D : xD) (Bs sz : Nat) (kd : xKd) (rf : xRf) (M : xM) (x y z : Int) (r0 : IR x) (r1 : IR y) (r2 : IR z) : CtI l D Bs yX5_isWithin cX5_isWithin 3 (some .boolean) 0 [vi x, vi y, vi z] sz kd rf M (fun r M' => r = bi (y ≤ x ∧ x ≤ z) ∧ M' = M) := by
  refine Ctr.of (ys_X5_isWithin.1.2.2.2.2) (List.forall_mem_cons.mpr ⟨rfl, List.forall_mem_cons.mpr ⟨rfl, List.forall_mem_cons.mpr ⟨rfl, fun _ h => absurd h List.not_mem_nil⟩⟩⟩) (Nat.le_of_ble_eq_true rfl) [some (vi x), some (vi y), some (vi z)] rfl ?_
  intro p e s m args below meth c X hin
  refine G.iload_n X 1 dX5_isWithin_0 rfl rfl ?_
  refine G.iload_n X 2 dX5_isWithin_1 rfl rfl ?_
  refine G.icmp_lt X 14 5 dX5_isWithin_2 (by decide) rfl (by omega) (by omega) (fun hc2 => ?_) (fun hc2 => ?_)
  · refine G.iconst X 15 dX5_isWithin_14 rfl ?_
    refine G.zret X dX5_isWithin_15 ⟨Nat.le_refl _, Nat.le_refl _⟩ (Or.inl rfl) ⟨rfl, rfl, rfl, _, rfl, ?_⟩
    exact ⟨(bi_f (by omega)).symm, rfl⟩
  · refine G.iload_n X 6 dX5_isWithin_5 rfl rfl ?_
    refine G.iload_n X 7 dX5_isWithin_6 rfl rfl ?_
    refine G.icmp_gt X 14 10 dX5_isWithin_7 (by decide) rfl (by omega) (by omega) (fun hc7 => ?_) (fun hc7 => ?_)
    · refine G.iconst X 15 dX5_isWithin_14 rfl ?_
      refine G.zret X dX5_isWithin_15 ⟨Nat.le_refl _, Nat.le_refl _⟩ (Or.inl rfl) ⟨rfl, rfl, rfl, _, rfl, ?_⟩
      exact ⟨(bi_f (by omega)).symm, rfl⟩
    · refine G.iconst X 11 dX5_isWithin_10 rfl ?_
      refine G.goto X 15 dX5_isWithin_11 (by decide) ?_
      refine G.zret X dX5_isWithin_15 ⟨Nat.le_refl _, Nat.le_refl _⟩ (Or.inr rfl) ⟨rfl, rfl, rfl, _, rfl, ?_⟩
      exact ⟨(bi_t (by omega)).symm, rfl⟩
set_option maxHeartbeats 4000000 in
set_option maxRecDepth 100000 in
theorem c_X4_allowsHours (l : Launch) (D : xD) (Bs sz : Nat) (kd : xKd) (rf : xRf) (M : xM) (b : Nat) (f u : Int) (hS : ShSt kd rf b) (r0 : IR f) (r1 : IR u) (r2 : IR (M b 0)) : CtI l D Bs yX4_allowsHours cX4_allowsHours 3 (some .boolean) 1 [.ref b, vi f, vi u] sz kd rf M (fun r M' => r = bi (0 ≤ f ∧ f ≤ 998 ∧ f < u ∧ M b 0 < u ∧ u ≤ 999) ∧ M' = M) := by
  refine Ctr.of (yv_X4_allowsHours.1.2.2.2.2) (List.forall_mem_cons.mpr ⟨rfl, List.forall_mem_cons.mpr ⟨rfl, List.forall_mem_cons.mpr ⟨rfl, fun _ h => absurd h List.not_mem_nil⟩⟩⟩) (Nat.le_of_ble_eq_true rfl) [some (.ref b), some (vi f), some (vi u)] rfl ?_
  intro p e s m args below meth c X hin
  refine G.iload_n X 1 dX4_allowsHours_0 rfl rfl ?_
  refine G.iconst X 2 dX4_allowsHours_1 rfl ?_
  refine G.sipush X 5 dX4_allowsHours_2 rfl (by decide) ?_
  refine G.sI3 (d := 0) X ml_X4_60 ys_X5_isWithin 8 dX4_allowsHours_5 rfl (c_X5_isWithin l D Bs _ kd rf _ _ _ _ (by omega) (by omega) (by omega)) (by decide) ⟨Nat.zero_le _, Nat.zero_le _⟩ (Nat.le_of_ble_eq_true rfl) (fun r5 M5 h5 => ?_)
  obtain ⟨hr5, hm5⟩ := h5
  subst hr5
  obtain rfl := hm5.symm
  refine G.ifb_eq X 35 11 dX4_allowsHours_8 (by decide) rfl (fun hc8 => ?_) (fun hc8 => ?_)
  · refine G.iconst X 36 dX4_allowsHours_35 rfl ?_
    refine G.zret X dX4_allowsHours_36 ⟨Nat.le_refl _, Nat.le_refl _⟩ (Or.inl rfl) ⟨rfl, rfl, rfl, _, rfl, ?_⟩
    exact ⟨(bi_f (by omega)).symm, rfl⟩
  · refine G.iload_n X 12 dX4_allowsHours_11 rfl rfl ?_
    refine G.iload_n X 13 dX4_allowsHours_12 rfl rfl ?_
    refine G.icmp_le X 35 16 dX4_allowsHours_13 (by decide) rfl (by omega) (by omega) (fun hc13 => ?_) (fun hc13 => ?_)
    · refine G.iconst X 36 dX4_allowsHours_35 rfl ?_
      refine G.zret X dX4_allowsHours_36 ⟨Nat.le_refl _, Nat.le_refl _⟩ (Or.inl rfl) ⟨rfl, rfl, rfl, _, rfl, ?_⟩
      exact ⟨(bi_f (by omega)).symm, rfl⟩
    · refine G.iload_n X 17 dX4_allowsHours_16 rfl rfl ?_
      refine G.aload_n X 18 dX4_allowsHours_17 rfl rfl ?_
      refine G.getI X fl_X4_32 21 dX4_allowsHours_18 rfl (hS).1 ((hS).2.1 0 (by decide)) ?_
      refine G.icmp_le X 35 24 dX4_allowsHours_21 (by decide) rfl (by omega) (by omega) (fun hc21 => ?_) (fun hc21 => ?_)
      · refine G.iconst X 36 dX4_allowsHours_35 rfl ?_
        refine G.zret X dX4_allowsHours_36 ⟨Nat.le_refl _, Nat.le_refl _⟩ (Or.inl rfl) ⟨rfl, rfl, rfl, _, rfl, ?_⟩
        exact ⟨(bi_f (by omega)).symm, rfl⟩
      · refine G.iload_n X 25 dX4_allowsHours_24 rfl rfl ?_
        refine G.sipush X 28 dX4_allowsHours_25 rfl (by decide) ?_
        refine G.icmp_gt X 35 31 dX4_allowsHours_28 (by decide) rfl (by omega) (by omega) (fun hc28 => ?_) (fun hc28 => ?_)
        · refine G.iconst X 36 dX4_allowsHours_35 rfl ?_
          refine G.zret X dX4_allowsHours_36 ⟨Nat.le_refl _, Nat.le_refl _⟩ (Or.inl rfl) ⟨rfl, rfl, rfl, _, rfl, ?_⟩
          exact ⟨(bi_f (by omega)).symm, rfl⟩
        · refine G.iconst X 32 dX4_allowsHours_31 rfl ?_
          refine G.goto X 36 dX4_allowsHours_32 (by decide) ?_
          refine G.zret X dX4_allowsHours_36 ⟨Nat.le_refl _, Nat.le_refl _⟩ (Or.inr rfl) ⟨rfl, rfl, rfl, _, rfl, ?_⟩
          exact ⟨(bi_t (by omega)).symm, rfl⟩
set_option maxHeartbeats 4000000 in
set_option maxRecDepth 100000 in
theorem c_X4_supplyOf (l : Launch) (D : xD) (Bs sz : Nat) (kd : xKd) (rf : xRf) (M : xM) (b a : Nat) (hS : ShSt kd rf b) (hC : IsC kd rf a) (r1 : IR (M a 4)) (r2 : 0 ≤ M b 7 ∧ M b 7 ≤ 10) : CtR l D Bs yX4_supplyOf cX4_supplyOf 2 (some (.object RX1)) 1 [.ref b, .ref a] sz kd rf M (fun v M' => M' = M ∧ (v = .null ∧ ¬ (0 ≤ M a 4 ∧ M a 4 < M b 7) ∨ ∃ i : Nat, M a 4 = (i : Int) ∧ (i : Int) < M b 7 ∧ v = .ref (b + 3 + i))) := by
  refine Ctr.of (yv_X4_supplyOf.1.2.2.2.2) (List.forall_mem_cons.mpr ⟨rfl, List.forall_mem_cons.mpr ⟨rfl, fun _ h => absurd h List.not_mem_nil⟩⟩) (Nat.le_of_ble_eq_true rfl) [some (.ref b), some (.ref a)] rfl ?_
  intro p e s m args below meth c X hin
  refine G.aload_n X 1 dX4_supplyOf_0 rfl rfl ?_
  refine G.aload_n X 2 dX4_supplyOf_1 rfl rfl ?_
  refine G.getI X fl_X4_90 5 dX4_supplyOf_2 rfl (hC).1 ((hC).2 4) ?_
  refine G.vI1 (d := 0) X ml_X4_93 yv_X4_isSet 8 dX4_supplyOf_5 rfl (c_X4_isSet l D Bs _ kd rf _ _ _ (hS) (by omega) (by omega)) ⟨_, _, (hS).1, rfl, rfl⟩ (by decide) ⟨Nat.zero_le _, Nat.zero_le _⟩ (Nat.le_of_ble_eq_true rfl) (fun r5 M5 h5 => ?_)
  obtain ⟨hr5, hm5⟩ := h5
  subst hr5
  obtain rfl := hm5.symm
  refine G.ifb_eq X 23 11 dX4_supplyOf_8 (by decide) rfl (fun hc8 => ?_) (fun hc8 => ?_)
  · refine G.null X 24 dX4_supplyOf_23 rfl ?_
    refine G.aret X dX4_supplyOf_24 ⟨Nat.le_refl _, Nat.le_refl _⟩ (Or.inl rfl) ⟨rfl, rfl, rfl, _, rfl, ?_⟩
    first | exact ⟨rfl, Or.inr ⟨(M a 4).toNat, by omega, by omega, rfl⟩⟩ | exact ⟨rfl, Or.inl ⟨rfl, by omega⟩⟩
  · refine G.aload_n X 12 dX4_supplyOf_11 rfl rfl ?_
    refine G.getR X fl_X4_20 15 dX4_supplyOf_12 rfl (hS).1 (hS).2.2.1 ?_
    refine G.aload_n X 16 dX4_supplyOf_15 rfl rfl ?_
    refine G.getI X fl_X4_90 19 dX4_supplyOf_16 rfl (hC).1 ((hC).2 4) ?_
    refine G.aald X (i := (M a 4).toNat) 20 dX4_supplyOf_19 rfl (ShSt.kg hS) (by decide) (ShSt.rg hS (by omega)) (by omega) (by omega) (by decide) ?_
    refine G.goto X 24 dX4_supplyOf_20 (by decide) ?_
    refine G.aret X dX4_supplyOf_24 ⟨Nat.le_refl _, Nat.le_refl _⟩ (Or.inr ⟨_, rfl⟩) ⟨rfl, rfl, rfl, _, rfl, ?_⟩
    first | exact ⟨rfl, Or.inr ⟨(M a 4).toNat, by omega, by omega, rfl⟩⟩ | exact ⟨rfl, Or.inl ⟨rfl, by omega⟩⟩
set_option maxHeartbeats 4000000 in
set_option maxRecDepth 100000 in
theorem c_X4_leastInYard (l : Launch) (D : xD) (Bs sz : Nat) (kd : xKd) (rf : xRf) (M : xM) (b j : Nat) (r : xR) (hS : ShSt kd rf b) (hV : Vk r) (hM : St M b r) (hj : j < nC r) : CtI l D Bs yX4_leastInYard cX4_leastInYard 5 (some .int) 0 [.ref b, vi (j : Int)] sz kd rf M (fun q M' => q = yardF r j (nS r) ∧ M' = M) := by
  refine Ctr.of (yv_X4_leastInYard.1.2.2.2.2) (List.forall_mem_cons.mpr ⟨rfl, List.forall_mem_cons.mpr ⟨rfl, fun _ h => absurd h List.not_mem_nil⟩⟩) (Nat.le_of_ble_eq_true rfl) [some (.ref b), some (vi (j : Int)), none, none, none] rfl ?_
  intro p e s m args below meth c X hin
  obtain ⟨-, -, -, -, -, -, -, hb7, hb8⟩ := hM.1
  obtain ⟨n6, n6b⟩ := hV.n6
  obtain ⟨n7, n7b⟩ := hV.n7
  obtain ⟨-, cj1, -, -, -, -, -, -, -⟩ := hM.2.2 (j) hj
  obtain ⟨-, vj1, -, -, -, -, -⟩ := hV.2.2 (j) hj
  have L5 : ∀ (k : Nat) (i : Nat) (q : Int), i + k = nS r → q = yardF r j i → G p l e (rmd 0) s m args below meth c D Bs 5 0 0 (MQ below (xQ D Bs (pI sz kd rf (fun q M' => q = yardF r j (nS r) ∧ M' = M))) args s 0 0 (fun q => Bs ≤ q)) sz kd rf (M) 5 [some (.ref b), some (vi (j : Int)), some (vi q), some (vi (i : Int)), none] [] := by
    intro k
    induction k with
    | zero =>
      intro i q hik hq
      refine G.iload_n X 6 dX4_leastInYard_5 rfl rfl ?_
      refine G.aload_n X 7 dX4_leastInYard_6 rfl rfl ?_
      refine G.getI X fl_X4_47 10 dX4_leastInYard_7 rfl (hS).1 ((hS).2.1 7 (by decide)) ?_
      refine G.icmp_ge X 95 13 dX4_leastInYard_10 (by decide) rfl (by omega) (by omega) (fun hc10 => ?_) (fun hc10 => ?_)
      · refine G.iload_n X 96 dX4_leastInYard_95 rfl rfl ?_
        refine G.iret X dX4_leastInYard_96 ⟨Nat.le_refl _, Nat.le_refl _⟩ ⟨rfl, rfl, rfl, _, rfl, ?_⟩
        exact ⟨by rw [hq, show nS r = i by omega], rfl⟩
      · exfalso; omega
    | succ k ih =>
      intro i q hik hq
      have hi : i < nS r := by omega
      obtain ⟨gi0, -, -, -, -, gi5, -, -, -⟩ := hM.2.1 (i) hi
      obtain ⟨vi0, -, -, -, -, vi5, -, -⟩ := hV.2.1 (i) hi
      have hyl := yardF_lim r j i
      refine G.iload_n X 6 dX4_leastInYard_5 rfl rfl ?_
      refine G.aload_n X 7 dX4_leastInYard_6 rfl rfl ?_
      refine G.getI X fl_X4_47 10 dX4_leastInYard_7 rfl (hS).1 ((hS).2.1 7 (by decide)) ?_
      refine G.icmp_ge X 95 13 dX4_leastInYard_10 (by decide) rfl (by omega) (by omega) (fun hc10 => ?_) (fun hc10 => ?_)
      · exfalso; omega
      · refine G.aload_n X 14 dX4_leastInYard_13 rfl rfl ?_
        refine G.getR X fl_X4_20 17 dX4_leastInYard_14 rfl (hS).1 (hS).2.2.1 ?_
        refine G.iload_n X 18 dX4_leastInYard_17 rfl rfl ?_
        refine G.aald X 19 dX4_leastInYard_18 rfl (ShSt.kg hS) (by decide) (ShSt.rg hS (by omega)) rfl (by omega) (by decide) ?_
        refine G.getI X fl_X4_101 22 dX4_leastInYard_19 rfl (ShSt.g hS (by omega)).1 ((ShSt.g hS (by omega)).2 5) ?_
        refine G.bipush X 24 dX4_leastInYard_22 rfl (by decide) ?_
        refine G.icmp_ne X 52 27 dX4_leastInYard_24 (by decide) rfl (by omega) (by omega) (fun hc24 => ?_) (fun hc24 => ?_)
        · refine G.iconst X 53 dX4_leastInYard_52 rfl ?_
          refine G.istore (ls' := [_, _, _, _, _]) X 55 dX4_leastInYard_53 rfl (by decide) rfl ?_
          refine G.iload X 57 dX4_leastInYard_55 rfl rfl ?_
          refine G.if_eq X 89 60 dX4_leastInYard_57 (by decide) rfl (by omega) (fun hc57 => ?_) (fun hc57 => ?_)
          · refine G.iinc (ls' := [_, _, _, _, _]) X 92 dX4_leastInYard_89 rfl rfl (by decide) rfl ?_
            refine G.goto X 5 dX4_leastInYard_92 (by decide) ?_
            refine G.drop 4 ?_
            refine ih (i + 1) _ (by omega) ?_
            rw [yardF_s]
            first | (rw [if_pos (by omega)]; done) | (rw [if_neg (by omega)]; exact hq)
          · exact absurd hc57 (by decide)
        · refine G.aload_n X 28 dX4_leastInYard_27 rfl rfl ?_
          refine G.getR X fl_X4_20 31 dX4_leastInYard_28 rfl (hS).1 (hS).2.2.1 ?_
          refine G.iload_n X 32 dX4_leastInYard_31 rfl rfl ?_
          refine G.aald X 33 dX4_leastInYard_32 rfl (ShSt.kg hS) (by decide) (ShSt.rg hS (by omega)) rfl (by omega) (by decide) ?_
          refine G.getI X fl_X4_64 36 dX4_leastInYard_33 rfl (ShSt.g hS (by omega)).1 ((ShSt.g hS (by omega)).2 0) ?_
          refine G.aload_n X 37 dX4_leastInYard_36 rfl rfl ?_
          refine G.getR X fl_X4_26 40 dX4_leastInYard_37 rfl (hS).1 (hS).2.2.2.1 ?_
          refine G.iload_n X 41 dX4_leastInYard_40 rfl rfl ?_
          refine G.aald X (i := j) 42 dX4_leastInYard_41 rfl (ShSt.kc hS) (by decide) (ShSt.rc hS (by omega)) rfl (by omega) (by decide) ?_
          refine G.getI X fl_X4_104 45 dX4_leastInYard_42 rfl (ShSt.c hS (by omega)).1 ((ShSt.c hS (by omega)).2 1) ?_
          refine G.icmp_lt X 52 48 dX4_leastInYard_45 (by decide) rfl (by omega) (by omega) (fun hc45 => ?_) (fun hc45 => ?_)
          · refine G.iconst X 53 dX4_leastInYard_52 rfl ?_
            refine G.istore (ls' := [_, _, _, _, _]) X 55 dX4_leastInYard_53 rfl (by decide) rfl ?_
            refine G.iload X 57 dX4_leastInYard_55 rfl rfl ?_
            refine G.if_eq X 89 60 dX4_leastInYard_57 (by decide) rfl (by omega) (fun hc57 => ?_) (fun hc57 => ?_)
            · refine G.iinc (ls' := [_, _, _, _, _]) X 92 dX4_leastInYard_89 rfl rfl (by decide) rfl ?_
              refine G.goto X 5 dX4_leastInYard_92 (by decide) ?_
              refine G.drop 4 ?_
              refine ih (i + 1) _ (by omega) ?_
              rw [yardF_s]
              first | (rw [if_pos (by omega)]; done) | (rw [if_neg (by omega)]; exact hq)
            · exact absurd hc57 (by decide)
          · refine G.iconst X 49 dX4_leastInYard_48 rfl ?_
            refine G.goto X 53 dX4_leastInYard_49 (by decide) ?_
            refine G.istore (ls' := [_, _, _, _, _]) X 55 dX4_leastInYard_53 rfl (by decide) rfl ?_
            refine G.iload X 57 dX4_leastInYard_55 rfl rfl ?_
            refine G.if_eq X 89 60 dX4_leastInYard_57 (by decide) rfl (by omega) (fun hc57 => ?_) (fun hc57 => ?_)
            · exact absurd hc57 (by decide)
            · refine G.iload_n X 61 dX4_leastInYard_60 rfl rfl ?_
              refine G.bipush X 63 dX4_leastInYard_61 rfl (by decide) ?_
              refine G.icmp_eq X 87 66 dX4_leastInYard_63 (by decide) rfl (by omega) (by omega) (fun hc63 => ?_) (fun hc63 => ?_)
              · refine G.iload_n X 88 dX4_leastInYard_87 rfl rfl ?_
                refine G.istore_n (ls' := [_, _, _, _, _]) X 89 dX4_leastInYard_88 rfl (by decide) rfl ?_
                refine G.iinc (ls' := [_, _, _, _, _]) X 92 dX4_leastInYard_89 rfl rfl (by decide) rfl ?_
                refine G.goto X 5 dX4_leastInYard_92 (by decide) ?_
                refine G.drop 4 ?_
                refine ih (i + 1) _ (by omega) ?_
                rw [yardF_s]
                first | (rw [if_pos (by omega)]; done) | (rw [if_neg (by omega)]; exact hq)
              · obtain ⟨w, hw, hwi, hw3, hw4⟩ := yardF_get (r := r) (s := j) (n := i) (by omega)
                have hwt : fS r (yardF r j i).toNat 0 = fS r w 0 := by rw [hw]; rfl
                obtain ⟨gw0, -, -, -, -, -, -, -, -⟩ := hM.2.1 (w) (by omega)
                obtain ⟨vw0, -, -, -, -, -, -, -⟩ := hV.2.1 (w) (by omega)
                refine G.aload_n X 67 dX4_leastInYard_66 rfl rfl ?_
                refine G.getR X fl_X4_20 70 dX4_leastInYard_67 rfl (hS).1 (hS).2.2.1 ?_
                refine G.iload_n X 71 dX4_leastInYard_70 rfl rfl ?_
                refine G.aald X 72 dX4_leastInYard_71 rfl (ShSt.kg hS) (by decide) (ShSt.rg hS (by omega)) rfl (by omega) (by decide) ?_
                refine G.getI X fl_X4_64 75 dX4_leastInYard_72 rfl (ShSt.g hS (by omega)).1 ((ShSt.g hS (by omega)).2 0) ?_
                refine G.aload_n X 76 dX4_leastInYard_75 rfl rfl ?_
                refine G.getR X fl_X4_20 79 dX4_leastInYard_76 rfl (hS).1 (hS).2.2.1 ?_
                refine G.iload_n X 80 dX4_leastInYard_79 rfl rfl ?_
                refine G.aald X (i := w) 81 dX4_leastInYard_80 rfl (ShSt.kg hS) (by decide) (ShSt.rg hS (by omega)) (by omega) (by omega) (by decide) ?_
                refine G.getI X fl_X4_64 84 dX4_leastInYard_81 rfl (ShSt.g hS (by omega)).1 ((ShSt.g hS (by omega)).2 0) ?_
                refine G.icmp_ge X 89 87 dX4_leastInYard_84 (by decide) rfl (by omega) (by omega) (fun hc84 => ?_) (fun hc84 => ?_)
                · refine G.iinc (ls' := [_, _, _, _, _]) X 92 dX4_leastInYard_89 rfl rfl (by decide) rfl ?_
                  refine G.goto X 5 dX4_leastInYard_92 (by decide) ?_
                  refine G.drop 4 ?_
                  refine ih (i + 1) _ (by omega) ?_
                  rw [yardF_s]
                  first | (rw [if_pos (by omega)]; done) | (rw [if_neg (by omega)]; exact hq)
                · refine G.iload_n X 88 dX4_leastInYard_87 rfl rfl ?_
                  refine G.istore_n (ls' := [_, _, _, _, _]) X 89 dX4_leastInYard_88 rfl (by decide) rfl ?_
                  refine G.iinc (ls' := [_, _, _, _, _]) X 92 dX4_leastInYard_89 rfl rfl (by decide) rfl ?_
                  refine G.goto X 5 dX4_leastInYard_92 (by decide) ?_
                  refine G.drop 4 ?_
                  refine ih (i + 1) _ (by omega) ?_
                  rw [yardF_s]
                  first | (rw [if_pos (by omega)]; done) | (rw [if_neg (by omega)]; exact hq)
  refine G.bipush X 2 dX4_leastInYard_0 rfl (by decide) ?_
  refine G.istore_n (ls' := [_, _, _, _, _]) X 3 dX4_leastInYard_2 rfl (by decide) rfl ?_
  refine G.iconst X 4 dX4_leastInYard_3 rfl ?_
  refine G.istore_n (ls' := [_, _, _, _, _]) X 5 dX4_leastInYard_4 rfl (by decide) rfl ?_
  exact L5 (nS r) 0 (-5) (by omega) rfl
end
section
theorem fu_self {r : xR} {k : Nat} : fu r k (r k) = r := by
  funext j
  by_cases h : j = k
  · subst h
    rw [fu_same]
  · rw [fu_ne h]
theorem fu_eq {r : xR} {k : Nat} {x : Int} (h : x = r k) : fu r k x = r := by
  subst h
  exact fu_self
theorem St.rel0 {M : xM} {b s : Nat} {r : xR} (h : St M b r) (hs : s < 12) (hn : nS r ≤ 10 ∧ nC r ≤ 12) (h4 : fC r s 4 = 0) : St (mu M (b + 13 + s) 4 (-5)) b (relR r s) := by
  have h1 := h.setC (k := 4) (x := fC r s 4) (y := -5) hs hn (by decide) (by omega)
  unfold relR
  rw [if_neg (by omega)]
  rw [show fu r (116 + 10 * s + 4) (fC r s 4) = r from fu_self] at h1
  exact h1
theorem St.lit {M : xM} {b s : Nat} {r : xR} {v4 v8 v6 vb v5 v7 : Int} (h : St M b r) (hm : hasN r s < 10) (hs : s < 12) (hn : nS r ≤ 10 ∧ nC r ≤ 12) (e4 : v4 = fS r (hasN r s) 4 - fS r (hasN r s) 2) (e8 : v8 = fS r (hasN r s) 8 + 1) (e6 : v6 = bi (fS r (hasN r s) 2 ≤ fS r (hasN r s) 4 - fS r (hasN r s) 2)) (eb : vb = r 4 + fS r (hasN r s) 2) (e5 : v5 = fC r s 5 + 1) (e7 : v7 = fC r s 7 + fS r (hasN r s) 0 * r 2) :
    St (mu (mu (mu (mu (mu (mu M (b + 3 + hasN r s) 4 v4) (b + 3 + hasN r s) 8 v8) (b + 3 + hasN r s) 6 v6) b 4 vb) (b + 13 + s) 5 v5) (b + 13 + s) 7 v7) b (litR r s) := by
  subst e4 e8 e6 eb e5 e7
  unfold litR
  have n0 : ∀ (q : xR) (k : Nat) (x : Int), nS q ≤ 10 ∧ nC q ≤ 12 → nS (fu q (16 + 10 * hasN r s + k) x) ≤ 10 ∧ nC (fu q (16 + 10 * hasN r s + k) x) ≤ 12 := fun q k x h => by rw [nS_fuS, nC_fuS]; exact h
  have n1 : ∀ (q : xR) (k : Nat) (x : Int), nS q ≤ 10 ∧ nC q ≤ 12 → nS (fu q (116 + 10 * s + k) x) ≤ 10 ∧ nC (fu q (116 + 10 * s + k) x) ≤ 12 := fun q k x h => by rw [nS_fuC, nC_fuC]; exact h
  have n2 : ∀ (q : xR) (x : Int), nS q ≤ 10 ∧ nC q ≤ 12 → nS (fu q 4 x) ≤ 10 ∧ nC (fu q 4 x) ≤ 12 := fun q x h => by rw [nS_fu0 (by decide), nC_fu0 (by decide)]; exact h
  have h1 := h.setG (k := 4) (x := fS r (hasN r s) 4 - fS r (hasN r s) 2) hm hn (by decide) (by decide)
  have h2 := h1.setG (k := 8) (x := fS r (hasN r s) 8 + 1) hm (n0 _ _ _ hn) (by decide) (by decide)
  have h3 := h2.setG (k := 6) (x := bi (fS r (hasN r s) 2 ≤ fS r (hasN r s) 4 - fS r (hasN r s) 2)) hm (n0 _ _ _ (n0 _ _ _ hn)) (by decide) (by decide)
  have h4 := h3.set0 (k := 4) (j := 4) (x := r 4 + fS r (hasN r s) 2) (n0 _ _ _ (n0 _ _ _ (n0 _ _ _ hn))) (by decide)
  have h5 := h4.setC (k := 5) (x := fC r s 5 + 1) (y := fC r s 5 + 1) hs (n2 _ _ (n0 _ _ _ (n0 _ _ _ (n0 _ _ _ hn)))) (by decide) (by omega)
  have h6 := h5.setC (k := 7) (x := fC r s 7 + fS r (hasN r s) 0 * r 2) (y := fC r s 7 + fS r (hasN r s) 0 * r 2) hs (n1 _ _ _ (n2 _ _ (n0 _ _ _ (n0 _ _ _ (n0 _ _ _ hn))))) (by decide) (by omega)
  exact (h6.ign (j := 10) (by decide)).ign (j := 8) (by decide)
theorem St.dark1 {M : xM} {b s : Nat} {r : xR} {v6 : Int} (h : St M b r) (hs : s < 12) (hn : nS r ≤ 10 ∧ nC r ≤ 12) (e6 : v6 = fC r s 6 + 1) : St (mu (mu M (b + 13 + s) 6 v6) (b + 13 + s) 8 1) b (darkR r s 1) := by
  subst e6
  unfold darkR
  dsimp only
  rw [if_neg (by decide), if_neg (by decide)]
  have n1 : ∀ (q : xR) (k : Nat) (x : Int), nS q ≤ 10 ∧ nC q ≤ 12 → nS (fu q (116 + 10 * s + k) x) ≤ 10 ∧ nC (fu q (116 + 10 * s + k) x) ≤ 12 := fun q k x h => by rw [nS_fuC, nC_fuC]; exact h
  have h1 := h.setC (k := 6) (x := fC r s 6 + 1) (y := fC r s 6 + 1) hs hn (by decide) (by omega)
  have h2 := h1.setC (k := 8) (x := 1) (y := 1) hs (n1 _ _ _ hn) (by decide) (by omega)
  have h3 := h2.ign (j := 9) (x := r 9 + 1) (by decide)
  rw [fu_eq (k := 11) (by rw [fu_ne (by decide), at_fuC (by decide), at_fuC (by decide)]; omega)]
  exact h3
theorem St.darkG {M : xM} {b s : Nat} {r : xR} {c v6 vb v7 : Int} (h : St M b r) (hm : hasN r s < 10) (hs : s < 12) (hn : nS r ≤ 10 ∧ nC r ≤ 12) (hc : c = 2 ∨ c = 3) (e6 : v6 = fC r s 6 + 1) (eb : vb = r 11 + 1) (e7 : v7 = fS r (hasN r s) 7 + (if c = 3 then 1 else 0)) :
    St (mu (mu (mu (mu M (b + 13 + s) 6 v6) (b + 13 + s) 8 c) b 6 vb) (b + 3 + hasN r s) 7 v7) b (darkR r s c) := by
  subst e6 eb
  have n1 : ∀ (q : xR) (k : Nat) (x : Int), nS q ≤ 10 ∧ nC q ≤ 12 → nS (fu q (116 + 10 * s + k) x) ≤ 10 ∧ nC (fu q (116 + 10 * s + k) x) ≤ 12 := fun q k x h => by rw [nS_fuC, nC_fuC]; exact h
  have n2 : ∀ (q : xR) (j : Nat) (x : Int), (j ≠ 6 ∧ j ≠ 7) → nS q ≤ 10 ∧ nC q ≤ 12 → nS (fu q j x) ≤ 10 ∧ nC (fu q j x) ≤ 12 := fun q j x hj h => by rw [nS_fu0 hj.1, nC_fu0 hj.2]; exact h
  have h1 := h.setC (k := 6) (x := fC r s 6 + 1) (y := fC r s 6 + 1) hs hn (by decide) (by omega)
  have h2 := h1.setC (k := 8) (x := c) (y := c) hs (n1 _ _ _ hn) (by decide) (by omega)
  have h3 := h2.ign (j := 9) (x := r 9 + 1) (by decide)
  have h4 := h3.set0 (k := 6) (j := 11) (x := r 11 + 1) (n2 _ _ _ (by decide) (n1 _ _ _ (n1 _ _ _ hn))) (by decide)
  have h5 := h4.setG (k := 7) (x := v7) hm (n2 _ _ _ (by decide) (n2 _ _ _ (by decide) (n1 _ _ _ (n1 _ _ _ hn)))) (by decide) (by decide)
  unfold darkR
  dsimp only
  rw [if_pos (show 1 < c by omega)]
  by_cases h3c : c = 3
  · rw [if_pos h3c] at e7
    rw [if_pos h3c, ← e7]
    exact h5
  · rw [if_neg h3c] at e7
    rw [if_neg h3c]
    rw [fu_eq (k := 16 + 10 * hasN r s + 7) (by rw [fu_ne (by omega), fu_ne (by omega), fu_ne (by omega), fu_ne (by omega), e7]; exact Int.add_zero _)] at h5
    exact h5
theorem caF_rng (g : xR) (t : Int) : caF g t = 0 ∨ caF g t = 2 ∨ caF g t = 3 := by
  unfold caF
  repeat' split
  all_goals omega
theorem causeR_has {r : xR} {s : Nat} (h : fC r s 4 ≠ 0) : causeR r s = 0 ∨ causeR r s = 2 ∨ causeR r s = 3 := by
  unfold causeR
  rw [if_neg h]
  exact caF_rng _ _
theorem causeR_rng (r : xR) (s : Nat) : 0 ≤ causeR r s ∧ causeR r s ≤ 3 := by
  by_cases h : fC r s 4 = 0
  · unfold causeR
    rw [if_pos h]
    omega
  · have := causeR_has (r := r) (s := s) h
    omega
set_option maxHeartbeats 4000000 in
set_option maxRecDepth 100000 in
theorem c_X4_send (l : Launch) (D : xD) (Bs sz : Nat) (kd : xKd) (rf : xRf) (M : xM) (b u j : Nat) (r : xR) (hS : ShSt kd rf b) (hV : Vk r) (hM : St M b r) (hm : u < nS r) (hs : j < nC r) : CtV l D Bs yX4_send cX4_send 3 none 1 [.ref b, vi (u : Int), vi (j : Int)] sz kd rf M (fun M' => St M' b (comeR r u j) ∧ Off M M' b 25) := by
  refine Ctr.of (yv_X4_send.1.2.2.2.2) (List.forall_mem_cons.mpr ⟨rfl, List.forall_mem_cons.mpr ⟨rfl, List.forall_mem_cons.mpr ⟨rfl, fun _ h => absurd h List.not_mem_nil⟩⟩⟩) (Nat.le_of_ble_eq_true rfl) [some (.ref b), some (vi (u : Int)), some (vi (j : Int))] rfl ?_
  intro p e s m args below meth c X hin
  obtain ⟨-, -, -, -, -, -, -, hb7, hb8⟩ := hM.1
  obtain ⟨n6, n6b⟩ := hV.n6
  obtain ⟨n7, n7b⟩ := hV.n7
  refine G.aload_n X 1 dX4_send_0 rfl rfl ?_
  refine G.getR X fl_X4_26 4 dX4_send_1 rfl (hS).1 (hS).2.2.2.1 ?_
  refine G.iload_n X 5 dX4_send_4 rfl rfl ?_
  refine G.aald X 6 dX4_send_5 rfl (ShSt.kc hS) (by decide) (ShSt.rc hS (by omega)) rfl (by omega) (by decide) ?_
  refine G.iload_n X 7 dX4_send_6 rfl rfl ?_
  refine G.putI X fl_X4_90 fi_0_4 rfl 10 dX4_send_7 rfl (ShSt.c hS (by omega)).1 ((ShSt.c hS (by omega)).2 4) ?_
  refine G.aload_n X 11 dX4_send_10 rfl rfl ?_
  refine G.getR X fl_X4_20 14 dX4_send_11 rfl (hS).1 (hS).2.2.1 ?_
  refine G.iload_n X 15 dX4_send_14 rfl rfl ?_
  refine G.aald X 16 dX4_send_15 rfl (ShSt.kg hS) (by decide) (ShSt.rg hS (by omega)) rfl (by omega) (by decide) ?_
  refine G.iload_n X 17 dX4_send_16 rfl rfl ?_
  refine G.vV1 (d := 0) X ml_X4_82 yv_X1_moveTo 20 dX4_send_17 rfl (c_X1_moveTo l D Bs _ kd rf _ _ _ (ShSt.g hS (by omega))) ⟨_, _, (ShSt.g hS (by omega)).1, rfl, rfl⟩ (by decide) ⟨Nat.zero_le _, Nat.zero_le _⟩ (Nat.le_of_ble_eq_true rfl) (fun M17 h17 => ?_)
  subst h17
  refine G.vret X dX4_send_20 ⟨Nat.le_refl _, Nat.le_refl _⟩ ⟨rfl, rfl, rfl, rfl, ?_⟩
  exact ⟨hM.come (by omega) (by omega) ⟨n6b, n7b⟩, Off.mu (Off.mu (Off.mu (Off.mu (Off.rf) (by omega)) (by omega)) (by omega)) (by omega)⟩
set_option maxHeartbeats 4000000 in
set_option maxRecDepth 100000 in
theorem c_X4_release (l : Launch) (D : xD) (Bs sz : Nat) (kd : xKd) (rf : xRf) (M : xM) (b j : Nat) (r : xR) (hS : ShSt kd rf b) (hV : Vk r) (hM : St M b r) (hs : j < nC r) : CtV l D Bs yX4_release cX4_release 3 none 2 [.ref b, vi (j : Int)] sz kd rf M (fun M' => St M' b (relR r j) ∧ Off M M' b 25) := by
  refine Ctr.of (yv_X4_release.1.2.2.2.2) (List.forall_mem_cons.mpr ⟨rfl, List.forall_mem_cons.mpr ⟨rfl, fun _ h => absurd h List.not_mem_nil⟩⟩) (Nat.le_of_ble_eq_true rfl) [some (.ref b), some (vi (j : Int)), none] rfl ?_
  intro p e s m args below meth c X hin
  obtain ⟨-, -, -, -, -, -, -, hb7, hb8⟩ := hM.1
  obtain ⟨n6, n6b⟩ := hV.n6
  obtain ⟨n7, n7b⟩ := hV.n7
  obtain ⟨-, -, -, -, c4, -, -, -, -⟩ := hM.2.2 (j) (by omega)
  obtain ⟨-, -, -, -, w4, -, -⟩ := hV.2.2 (j) (by omega)
  refine G.aload_n X 1 dX4_release_0 rfl rfl ?_
  refine G.aload_n X 2 dX4_release_1 rfl rfl ?_
  refine G.getR X fl_X4_26 5 dX4_release_2 rfl (hS).1 (hS).2.2.2.1 ?_
  refine G.iload_n X 6 dX4_release_5 rfl rfl ?_
  refine G.aald X 7 dX4_release_6 rfl (ShSt.kc hS) (by decide) (ShSt.rc hS (by omega)) rfl (by omega) (by decide) ?_
  refine G.vR1 (d := 1) X ml_X4_97 yv_X4_supplyOf 10 dX4_release_7 rfl (c_X4_supplyOf l D Bs _ kd rf _ _ _ (hS) (ShSt.c hS (by omega)) (by omega) (by omega)) ⟨_, _, (hS).1, rfl, rfl⟩ (by decide) ⟨Nat.zero_le _, Nat.zero_le _⟩ (Nat.le_of_ble_eq_true rfl) (fun r7 M7 h7 => ?_)
  obtain ⟨hm7, hz7⟩ := h7
  obtain rfl := hm7.symm
  rcases hz7 with ⟨hn7, hz7⟩ | ⟨i7, hi7, hj7, hn7⟩
  · subst hn7
    refine G.astore_nN (ls' := [_, _, _]) X 11 dX4_release_10 rfl (by decide) rfl ?_
    refine G.aload_nN X 12 dX4_release_11 rfl rfl ?_
    refine G.ifnullN X 21 dX4_release_12 (by decide) ?_
    refine G.aload_n X 22 dX4_release_21 rfl rfl ?_
    refine G.getR X fl_X4_26 25 dX4_release_22 rfl (hS).1 (hS).2.2.2.1 ?_
    refine G.iload_n X 26 dX4_release_25 rfl rfl ?_
    refine G.aald X 27 dX4_release_26 rfl (ShSt.kc hS) (by decide) (ShSt.rc hS (by omega)) rfl (by omega) (by decide) ?_
    refine G.bipush X 29 dX4_release_27 rfl (by decide) ?_
    refine G.putI X fl_X4_90 fi_0_4 rfl 32 dX4_release_29 rfl (ShSt.c hS (by omega)).1 ((ShSt.c hS (by omega)).2 4) ?_
    refine G.vret X dX4_release_32 ⟨Nat.le_refl _, Nat.le_refl _⟩ ⟨rfl, rfl, rfl, rfl, ?_⟩
    first | exact ⟨St.rel0 hM (by omega) ⟨n6b, n7b⟩ (by omega), Off.mu (Off.rf) (by omega)⟩ | exact ⟨by unfold relR; rw [if_pos (by omega)]; exact hM.back (by omega) (by omega) ⟨n6b, n7b⟩, Off.mu (Off.mu (Off.mu (Off.mu (Off.rf) (by omega)) (by omega)) (by omega)) (by omega)⟩
  · subst hn7
    obtain ⟨hh7, hl7⟩ : hasN r j = i7 ∧ i7 < nS r := by
      unfold hasN
      omega
    subst hh7
    refine G.astore_n (ls' := [_, _, _]) X 11 dX4_release_10 rfl (by decide) rfl ?_
    refine G.aload_n X 12 dX4_release_11 rfl rfl ?_
    refine G.ifnull X 15 dX4_release_12 rfl ?_
    refine G.aload_n X 16 dX4_release_15 rfl rfl ?_
    refine G.bipush X 18 dX4_release_16 rfl (by decide) ?_
    refine G.vV1 (d := 0) X ml_X4_82 yv_X1_moveTo 21 dX4_release_18 rfl (c_X1_moveTo l D Bs _ kd rf _ _ _ (ShSt.g (hS) (by omega))) ⟨_, _, (ShSt.g (hS) (by omega)).1, rfl, rfl⟩ (by decide) ⟨Nat.zero_le _, Nat.zero_le _⟩ (Nat.le_of_ble_eq_true rfl) (fun M18 h18 => ?_)
    subst h18
    refine G.aload_n X 22 dX4_release_21 rfl rfl ?_
    refine G.getR X fl_X4_26 25 dX4_release_22 rfl (hS).1 (hS).2.2.2.1 ?_
    refine G.iload_n X 26 dX4_release_25 rfl rfl ?_
    refine G.aald X 27 dX4_release_26 rfl (ShSt.kc hS) (by decide) (ShSt.rc hS (by omega)) rfl (by omega) (by decide) ?_
    refine G.bipush X 29 dX4_release_27 rfl (by decide) ?_
    refine G.putI X fl_X4_90 fi_0_4 rfl 32 dX4_release_29 rfl (ShSt.c hS (by omega)).1 ((ShSt.c hS (by omega)).2 4) ?_
    refine G.vret X dX4_release_32 ⟨Nat.le_refl _, Nat.le_refl _⟩ ⟨rfl, rfl, rfl, rfl, ?_⟩
    first | exact ⟨St.rel0 hM (by omega) ⟨n6b, n7b⟩ (by omega), Off.mu (Off.rf) (by omega)⟩ | exact ⟨by unfold relR; rw [if_pos (by omega)]; exact hM.back (by omega) (by omega) ⟨n6b, n7b⟩, Off.mu (Off.mu (Off.mu (Off.mu (Off.rf) (by omega)) (by omega)) (by omega)) (by omega)⟩
set_option maxHeartbeats 4000000 in
set_option maxRecDepth 100000 in
theorem c_X4_causeFor (l : Launch) (D : xD) (Bs sz : Nat) (kd : xKd) (rf : xRf) (M : xM) (b j : Nat) (r : xR) (hS : ShSt kd rf b) (hV : Vk r) (hM : St M b r) (hs : j < nC r) : CtI l D Bs yX4_causeFor cX4_causeFor 3 (some .int) 2 [.ref b, .ref (b + 13 + j)] sz kd rf M (fun q M' => q = causeR r j ∧ M' = M) := by
  refine Ctr.of (yv_X4_causeFor.1.2.2.2.2) (List.forall_mem_cons.mpr ⟨rfl, List.forall_mem_cons.mpr ⟨rfl, fun _ h => absurd h List.not_mem_nil⟩⟩) (Nat.le_of_ble_eq_true rfl) [some (.ref b), some (.ref (b + 13 + j)), none] rfl ?_
  intro p e s m args below meth c X hin
  obtain ⟨-, hb1, -, -, -, -, -, hb7, hb8⟩ := hM.1
  obtain ⟨n6, n6b⟩ := hV.n6
  obtain ⟨n7, n7b⟩ := hV.n7
  obtain ⟨-, hv1, -, -, -, -⟩ := hV.1
  obtain ⟨-, -, -, -, c4, -, -, -, -⟩ := hM.2.2 (j) (by omega)
  obtain ⟨-, -, -, -, w4, -, -⟩ := hV.2.2 (j) (by omega)
  refine G.aload_n X 1 dX4_causeFor_0 rfl rfl ?_
  refine G.aload_n X 2 dX4_causeFor_1 rfl rfl ?_
  refine G.vR1 (d := 1) X ml_X4_97 yv_X4_supplyOf 5 dX4_causeFor_2 rfl (c_X4_supplyOf l D Bs _ kd rf _ _ _ (hS) (ShSt.c hS (by omega)) (by omega) (by omega)) ⟨_, _, (hS).1, rfl, rfl⟩ (by decide) ⟨Nat.zero_le _, Nat.zero_le _⟩ (Nat.le_of_ble_eq_true rfl) (fun r2 M2 h2 => ?_)
  obtain ⟨hm2, hz2⟩ := h2
  obtain rfl := hm2.symm
  rcases hz2 with ⟨hn2, hz2⟩ | ⟨i2, hi2, hj2, hn2⟩
  · subst hn2
    refine G.astore_nN (ls' := [_, _, _]) X 6 dX4_causeFor_5 rfl (by decide) rfl ?_
    refine G.aload_nN X 7 dX4_causeFor_6 rfl rfl ?_
    refine G.ifnonnullN X 10 dX4_causeFor_7 rfl ?_
    refine G.iconst X 11 dX4_causeFor_10 rfl ?_
    refine G.goto X 22 dX4_causeFor_11 (by decide) ?_
    refine G.iret X dX4_causeFor_22 ⟨Nat.le_refl _, Nat.le_refl _⟩ ⟨rfl, rfl, rfl, _, rfl, ?_⟩
    first | exact ⟨by unfold causeR; rw [if_pos (by omega)], rfl⟩ | exact ⟨by unfold causeR; rw [if_neg (by omega)]; exact caF_congr g6 g4 g2 g3 g7 hb1, rfl⟩
  · subst hn2
    obtain ⟨hh2, hl2⟩ : hasN r j = i2 ∧ i2 < nS r := by
      unfold hasN
      omega
    subst hh2
    obtain ⟨-, -, g2, g3, g4, -, g6, g7, -⟩ := hM.2.1 (hasN r j) (by omega)
    obtain ⟨-, u1, u2, u3, u4, -, -, u7⟩ := hV.2.1 (hasN r j) (by omega)
    refine G.astore_n (ls' := [_, _, _]) X 6 dX4_causeFor_5 rfl (by decide) rfl ?_
    refine G.aload_n X 7 dX4_causeFor_6 rfl rfl ?_
    refine G.ifnonnull X 14 dX4_causeFor_7 (by decide) ?_
    refine G.aload_n X 15 dX4_causeFor_14 rfl rfl ?_
    refine G.aload_n X 16 dX4_causeFor_15 rfl rfl ?_
    refine G.getI X fl_X4_9 19 dX4_causeFor_16 rfl (hS).1 ((hS).2.1 1 (by decide)) ?_
    refine G.vI1 (d := 0) X ml_X4_137 yv_X1_causeAt 22 dX4_causeFor_19 rfl (c_X1_causeAt l D Bs _ kd rf _ _ _ (ShSt.g (hS) (by omega)) (by omega) (by omega) (by omega) (by omega) (by omega)) ⟨_, _, (ShSt.g (hS) (by omega)).1, rfl, rfl⟩ (by decide) ⟨Nat.zero_le _, Nat.zero_le _⟩ (Nat.le_of_ble_eq_true rfl) (fun r19 M19 h19 => ?_)
    obtain ⟨hr19, hm19⟩ := h19
    subst hr19
    obtain rfl := hm19.symm
    refine G.iret X dX4_causeFor_22 ⟨Nat.le_refl _, Nat.le_refl _⟩ ⟨rfl, rfl, rfl, _, rfl, ?_⟩
    first | exact ⟨by unfold causeR; rw [if_pos (by omega)], rfl⟩ | exact ⟨by unfold causeR; rw [if_neg (by omega)]; exact caF_congr g6 g4 g2 g3 g7 hb1, rfl⟩
set_option maxHeartbeats 4000000 in
set_option maxRecDepth 100000 in
theorem c_X4_lightOrDarken (l : Launch) (D : xD) (Bs sz : Nat) (kd : xKd) (rf : xRf) (M : xM) (b j : Nat) (r : xR) (hS : ShSt kd rf b) (hV : Vk r) (hM : St M b r) (hs : j < nC r) : CtV l D Bs yX4_lightOrDarken cX4_lightOrDarken 4 none 3 [.ref b, .ref (b + 13 + j)] sz kd rf M (fun M' => St M' b (hrS r j) ∧ Off M M' b 25) := by
  refine Ctr.of (yv_X4_lightOrDarken.1.2.2.2.2) (List.forall_mem_cons.mpr ⟨rfl, List.forall_mem_cons.mpr ⟨rfl, fun _ h => absurd h List.not_mem_nil⟩⟩) (Nat.le_of_ble_eq_true rfl) [some (.ref b), some (.ref (b + 13 + j)), none, none] rfl ?_
  intro p e s m args below meth c X hin
  obtain ⟨-, -, hb2, -, hb4, -, hb6, hb7, hb8⟩ := hM.1
  obtain ⟨n6, n6b⟩ := hV.n6
  obtain ⟨n7, n7b⟩ := hV.n7
  obtain ⟨-, -, -, -, c4, c5, c6, c7, -⟩ := hM.2.2 (j) (by omega)
  obtain ⟨-, -, -, -, w4, w6, -⟩ := hV.2.2 (j) (by omega)
  have hcr := causeR_rng r j
  refine G.aload_n X 1 dX4_lightOrDarken_0 rfl rfl ?_
  refine G.aload_n X 2 dX4_lightOrDarken_1 rfl rfl ?_
  refine G.vI1 (d := 2) X ml_X4_152 yv_X4_causeFor 5 dX4_lightOrDarken_2 rfl (c_X4_causeFor l D Bs _ kd rf _ _ _ _ (hS) hV hM hs) ⟨_, _, (hS).1, rfl, rfl⟩ (by decide) ⟨Nat.zero_le _, Nat.zero_le _⟩ (Nat.le_of_ble_eq_true rfl) (fun r2 M2 h2 => ?_)
  obtain ⟨hr2, hm2⟩ := h2
  subst hr2
  obtain rfl := hm2.symm
  refine G.istore_n (ls' := [_, _, _, _]) X 6 dX4_lightOrDarken_5 rfl (by decide) rfl ?_
  refine G.aload_n X 7 dX4_lightOrDarken_6 rfl rfl ?_
  refine G.aload_n X 8 dX4_lightOrDarken_7 rfl rfl ?_
  refine G.vR1 (d := 1) X ml_X4_97 yv_X4_supplyOf 11 dX4_lightOrDarken_8 rfl (c_X4_supplyOf l D Bs _ kd rf _ _ _ (hS) (ShSt.c hS (by omega)) (by omega) (by omega)) ⟨_, _, (hS).1, rfl, rfl⟩ (by decide) ⟨Nat.zero_le _, Nat.zero_le _⟩ (Nat.le_of_ble_eq_true rfl) (fun r8 M8 h8 => ?_)
  obtain ⟨hm8, hz8⟩ := h8
  obtain rfl := hm8.symm
  rcases hz8 with ⟨hn8, hz8⟩ | ⟨i8, hi8, hj8, hn8⟩
  · subst hn8
    refine G.astore_nN (ls' := [_, _, _, _]) X 12 dX4_lightOrDarken_11 rfl (by decide) rfl ?_
    refine G.aload_nN X 13 dX4_lightOrDarken_12 rfl rfl ?_
    refine G.ifnonnullN X 16 dX4_lightOrDarken_13 rfl ?_
    refine G.aload_n X 17 dX4_lightOrDarken_16 rfl rfl ?_
    refine G.iload_n X 18 dX4_lightOrDarken_17 rfl rfl ?_
    rw [show causeR r j = 1 by unfold causeR; exact if_pos (by omega)]
    refine G.vV1 (d := 0) X ml_X4_156 yv_X0_darken 21 dX4_lightOrDarken_18 rfl (c_X0_darken l D Bs _ kd rf _ _ _ (ShSt.c hS (by omega))) ⟨_, _, (ShSt.c hS (by omega)).1, rfl, rfl⟩ (by decide) ⟨Nat.zero_le _, Nat.zero_le _⟩ (Nat.le_of_ble_eq_true rfl) (fun M18 h18 => ?_)
    subst h18
    refine G.goto X 95 dX4_lightOrDarken_21 (by decide) ?_
    refine G.vret X dX4_lightOrDarken_95 ⟨Nat.le_refl _, Nat.le_refl _⟩ ⟨rfl, rfl, rfl, rfl, ?_⟩
    first
      | exact ⟨by unfold hrS; rw [if_pos (by omega)]; exact hM.lit (by omega) (by omega) ⟨n6b, n7b⟩ (by omega) (by omega) (by rw [g2, g4]) (by omega) (by omega) (by rw [c7]), Off.mu (Off.mu (Off.mu (Off.mu (Off.mu (Off.mu (Off.rf) (by omega)) (by omega)) (by omega)) (by omega)) (by omega)) (by omega)⟩
      | exact ⟨by unfold hrS; rw [show causeR r j = 1 by unfold causeR; exact if_pos (by omega), if_neg (by decide)]; exact hM.dark1 (by omega) ⟨n6b, n7b⟩ (by omega), Off.mu (Off.mu (Off.rf) (by omega)) (by omega)⟩
      | exact ⟨by unfold hrS; rw [if_neg (by omega)]; exact hM.darkG (by omega) (by omega) ⟨n6b, n7b⟩ (by have := causeR_has (r := r) (s := j) (by omega); omega) (by omega) (by omega) (by first | rw [if_pos (by omega)] | rw [if_neg (by omega)]), Off.mu (Off.mu (Off.mu (Off.mu (Off.rf) (by omega)) (by omega)) (by omega)) (by omega)⟩
  · subst hn8
    obtain ⟨hh8, hl8⟩ : hasN r j = i8 ∧ i8 < nS r := by
      unfold hasN
      omega
    subst hh8
    obtain ⟨g0, -, g2, -, g4, -, g6, g7, g8⟩ := hM.2.1 (hasN r j) (by omega)
    obtain ⟨-, u1, u2, -, u4, -, -, -⟩ := hV.2.1 (hasN r j) (by omega)
    refine G.astore_n (ls' := [_, _, _, _]) X 12 dX4_lightOrDarken_11 rfl (by decide) rfl ?_
    refine G.aload_n X 13 dX4_lightOrDarken_12 rfl rfl ?_
    refine G.ifnonnull X 24 dX4_lightOrDarken_13 (by decide) ?_
    refine G.iload_n X 25 dX4_lightOrDarken_24 rfl rfl ?_
    refine G.if_ne X 61 28 dX4_lightOrDarken_25 (by decide) rfl (by omega) (fun hc25 => ?_) (fun hc25 => ?_)
    · refine G.aload_n X 62 dX4_lightOrDarken_61 rfl rfl ?_
      refine G.iload_n X 63 dX4_lightOrDarken_62 rfl rfl ?_
      refine G.vV1 (d := 0) X ml_X4_156 yv_X0_darken 66 dX4_lightOrDarken_63 rfl (c_X0_darken l D Bs _ kd rf _ _ _ (ShSt.c hS (by omega))) ⟨_, _, (ShSt.c hS (by omega)).1, rfl, rfl⟩ (by decide) ⟨Nat.zero_le _, Nat.zero_le _⟩ (Nat.le_of_ble_eq_true rfl) (fun M63 h63 => ?_)
      subst h63
      refine G.aload_n X 67 dX4_lightOrDarken_66 rfl rfl ?_
      refine G.dup X 68 dX4_lightOrDarken_67 rfl rfl ?_
      refine G.getf (v := vi (r 11)) X fl_X4_44 71 dX4_lightOrDarken_68 rfl (hS).1 ((xV_int ((hS).2.1 6 (by decide))).trans (congrArg vi ?_)) ?_
      · simp only [mu_read]
        repeat' split
        all_goals first | rfl | (exfalso; omega) | omega
      refine G.iconst X 72 dX4_lightOrDarken_71 rfl ?_
      refine G.iadd X 73 dX4_lightOrDarken_72 rfl ?_
      refine G.putI X fl_X4_44 fi_4_6 rfl 76 dX4_lightOrDarken_73 rfl (hS).1 ((hS).2.1 6 (by decide)) ?_
      refine G.aload_n X 77 dX4_lightOrDarken_76 rfl rfl ?_
      refine G.dup X 78 dX4_lightOrDarken_77 rfl rfl ?_
      refine G.getf (v := vi (fS r (hasN r j) 7)) X fl_X4_165 81 dX4_lightOrDarken_78 rfl (ShSt.g (hS) (by omega)).1 ((xV_int ((ShSt.g (hS) (by omega)).2 7)).trans (congrArg vi ?_)) ?_
      · simp only [mu_read]
        repeat' split
        all_goals first | rfl | (exfalso; omega) | omega
      refine G.iload_n X 82 dX4_lightOrDarken_81 rfl rfl ?_
      refine G.iconst X 83 dX4_lightOrDarken_82 rfl ?_
      refine G.icmp_ne X 90 86 dX4_lightOrDarken_83 (by decide) rfl (by omega) (by omega) (fun hc83 => ?_) (fun hc83 => ?_)
      · refine G.iconst X 91 dX4_lightOrDarken_90 rfl ?_
        refine G.iadd X 92 dX4_lightOrDarken_91 rfl ?_
        refine G.putI X fl_X4_165 fi_1_7 rfl 95 dX4_lightOrDarken_92 rfl (ShSt.g (hS) (by omega)).1 ((ShSt.g (hS) (by omega)).2 7) ?_
        refine G.vret X dX4_lightOrDarken_95 ⟨Nat.le_refl _, Nat.le_refl _⟩ ⟨rfl, rfl, rfl, rfl, ?_⟩
        first
          | exact ⟨by unfold hrS; rw [if_pos (by omega)]; exact hM.lit (by omega) (by omega) ⟨n6b, n7b⟩ (by omega) (by omega) (by rw [g2, g4]) (by omega) (by omega) (by rw [c7]), Off.mu (Off.mu (Off.mu (Off.mu (Off.mu (Off.mu (Off.rf) (by omega)) (by omega)) (by omega)) (by omega)) (by omega)) (by omega)⟩
          | exact ⟨by unfold hrS; rw [show causeR r j = 1 by unfold causeR; exact if_pos (by omega), if_neg (by decide)]; exact hM.dark1 (by omega) ⟨n6b, n7b⟩ (by omega), Off.mu (Off.mu (Off.rf) (by omega)) (by omega)⟩
          | exact ⟨by unfold hrS; rw [if_neg (by omega)]; exact hM.darkG (by omega) (by omega) ⟨n6b, n7b⟩ (by have := causeR_has (r := r) (s := j) (by omega); omega) (by omega) (by omega) (by first | rw [if_pos (by omega)] | rw [if_neg (by omega)]), Off.mu (Off.mu (Off.mu (Off.mu (Off.rf) (by omega)) (by omega)) (by omega)) (by omega)⟩
      · refine G.iconst X 87 dX4_lightOrDarken_86 rfl ?_
        refine G.goto X 91 dX4_lightOrDarken_87 (by decide) ?_
        refine G.iadd X 92 dX4_lightOrDarken_91 rfl ?_
        refine G.putI X fl_X4_165 fi_1_7 rfl 95 dX4_lightOrDarken_92 rfl (ShSt.g (hS) (by omega)).1 ((ShSt.g (hS) (by omega)).2 7) ?_
        refine G.vret X dX4_lightOrDarken_95 ⟨Nat.le_refl _, Nat.le_refl _⟩ ⟨rfl, rfl, rfl, rfl, ?_⟩
        first
          | exact ⟨by unfold hrS; rw [if_pos (by omega)]; exact hM.lit (by omega) (by omega) ⟨n6b, n7b⟩ (by omega) (by omega) (by rw [g2, g4]) (by omega) (by omega) (by rw [c7]), Off.mu (Off.mu (Off.mu (Off.mu (Off.mu (Off.mu (Off.rf) (by omega)) (by omega)) (by omega)) (by omega)) (by omega)) (by omega)⟩
          | exact ⟨by unfold hrS; rw [show causeR r j = 1 by unfold causeR; exact if_pos (by omega), if_neg (by decide)]; exact hM.dark1 (by omega) ⟨n6b, n7b⟩ (by omega), Off.mu (Off.mu (Off.rf) (by omega)) (by omega)⟩
          | exact ⟨by unfold hrS; rw [if_neg (by omega)]; exact hM.darkG (by omega) (by omega) ⟨n6b, n7b⟩ (by have := causeR_has (r := r) (s := j) (by omega); omega) (by omega) (by omega) (by first | rw [if_pos (by omega)] | rw [if_neg (by omega)]), Off.mu (Off.mu (Off.mu (Off.mu (Off.rf) (by omega)) (by omega)) (by omega)) (by omega)⟩
    · refine G.aload_n X 29 dX4_lightOrDarken_28 rfl rfl ?_
      refine G.vV0 (d := 0) X ml_X4_159 yv_X1_burnHour 32 dX4_lightOrDarken_29 rfl (c_X1_burnHour l D Bs _ kd rf _ _ (ShSt.g (hS) (by omega)) (by omega) (by omega)) ⟨_, _, (ShSt.g (hS) (by omega)).1, rfl, rfl⟩ (by decide) ⟨Nat.zero_le _, Nat.zero_le _⟩ (Nat.le_of_ble_eq_true rfl) (fun M29 h29 => ?_)
      subst h29
      refine G.aload_n X 33 dX4_lightOrDarken_32 rfl rfl ?_
      refine G.dup X 34 dX4_lightOrDarken_33 rfl rfl ?_
      refine G.getf (v := vi (r 4)) X fl_X4_38 37 dX4_lightOrDarken_34 rfl (hS).1 ((xV_int ((hS).2.1 4 (by decide))).trans (congrArg vi ?_)) ?_
      · simp only [mu_read]
        repeat' split
        all_goals first | rfl | (exfalso; omega) | omega
      refine G.aload_n X 38 dX4_lightOrDarken_37 rfl rfl ?_
      refine G.getf (v := vi (fS r (hasN r j) 2)) X fl_X4_70 41 dX4_lightOrDarken_38 rfl (ShSt.g (hS) (by omega)).1 ((xV_int ((ShSt.g (hS) (by omega)).2 2)).trans (congrArg vi ?_)) ?_
      · simp only [mu_read]
        repeat' split
        all_goals first | rfl | (exfalso; omega) | omega
      refine G.iadd X 42 dX4_lightOrDarken_41 rfl ?_
      refine G.putI X fl_X4_38 fi_4_4 rfl 45 dX4_lightOrDarken_42 rfl (hS).1 ((hS).2.1 4 (by decide)) ?_
      refine G.aload_n X 46 dX4_lightOrDarken_45 rfl rfl ?_
      refine G.aload_n X 47 dX4_lightOrDarken_46 rfl rfl ?_
      refine G.getf (v := vi (fS r (hasN r j) 0)) X fl_X4_64 50 dX4_lightOrDarken_47 rfl (ShSt.g (hS) (by omega)).1 ((xV_int ((ShSt.g (hS) (by omega)).2 0)).trans (congrArg vi ?_)) ?_
      · simp only [mu_read]
        repeat' split
        all_goals first | rfl | (exfalso; omega) | omega
      refine G.aload_n X 51 dX4_lightOrDarken_50 rfl rfl ?_
      refine G.getf (v := vi (r 2)) X fl_X4_15 54 dX4_lightOrDarken_51 rfl (hS).1 ((xV_int ((hS).2.1 2 (by decide))).trans (congrArg vi ?_)) ?_
      · simp only [mu_read]
        repeat' split
        all_goals first | rfl | (exfalso; omega) | omega
      refine G.imul X 55 dX4_lightOrDarken_54 rfl ?_
      refine G.vV1 (d := 0) X ml_X4_162 yv_X0_light 58 dX4_lightOrDarken_55 rfl (c_X0_light l D Bs _ kd rf _ _ _ (ShSt.c hS (by omega))) ⟨_, _, (ShSt.c hS (by omega)).1, rfl, rfl⟩ (by decide) ⟨Nat.zero_le _, Nat.zero_le _⟩ (Nat.le_of_ble_eq_true rfl) (fun M55 h55 => ?_)
      subst h55
      simp only [mu_read, Nat.reduceEqDiff, and_false, reduceIte]
      refine G.goto X 95 dX4_lightOrDarken_58 (by decide) ?_
      refine G.vret X dX4_lightOrDarken_95 ⟨Nat.le_refl _, Nat.le_refl _⟩ ⟨rfl, rfl, rfl, rfl, ?_⟩
      first
        | exact ⟨by unfold hrS; rw [if_pos (by omega)]; exact hM.lit (by omega) (by omega) ⟨n6b, n7b⟩ (by omega) (by omega) (by rw [g2, g4]) (by omega) (by omega) (by rw [c7]), Off.mu (Off.mu (Off.mu (Off.mu (Off.mu (Off.mu (Off.rf) (by omega)) (by omega)) (by omega)) (by omega)) (by omega)) (by omega)⟩
        | exact ⟨by unfold hrS; rw [show causeR r j = 1 by unfold causeR; exact if_pos (by omega), if_neg (by decide)]; exact hM.dark1 (by omega) ⟨n6b, n7b⟩ (by omega), Off.mu (Off.mu (Off.rf) (by omega)) (by omega)⟩
        | exact ⟨by unfold hrS; rw [if_neg (by omega)]; exact hM.darkG (by omega) (by omega) ⟨n6b, n7b⟩ (by have := causeR_has (r := r) (s := j) (by omega); omega) (by omega) (by omega) (by first | rw [if_pos (by omega)] | rw [if_neg (by omega)]), Off.mu (Off.mu (Off.mu (Off.mu (Off.rf) (by omega)) (by omega)) (by omega)) (by omega)⟩
end
section
theorem relR_n (r : xR) (j : Nat) : ∀ k, k < 16 → relR r j k = r k := by
  intro k hk
  unfold relR
  split
  · exact backR_0 hk
  · rfl
theorem passS_n (r : xR) : ∀ n, nS (passS r n) = nS r ∧ nC (passS r n) = nC r ∧ passS r n 0 = r 0 ∧ passS r n 1 = r 1 ∧ passS r n 2 = r 2 ∧ passS r n 3 = r 3 ∧ passS r n 6 = r 6 ∧ passS r n 7 = r 7
  | 0 => ⟨rfl, rfl, rfl, rfl, rfl, rfl, rfl, rfl⟩
  | n + 1 => by
    have h := passS_n r n
    rw [passS_s]
    split
    · have g := hrS_n (r := passS r n) (s := n)
      have g6 : hrS (passS r n) n 6 = passS r n 6 := by
        unfold hrS
        split
        · rw [litR_0 (by decide)]; rfl
        · rw [darkR_0 (by decide)]; rfl
      have g7 : hrS (passS r n) n 7 = passS r n 7 := by
        unfold hrS
        split
        · rw [litR_0 (by decide)]; rfl
        · rw [darkR_0 (by decide)]; rfl
      exact ⟨g.1.trans h.1, g.2.1.trans h.2.1, g.2.2.1.trans h.2.2.1, g.2.2.2.1.trans h.2.2.2.1, g.2.2.2.2.1.trans h.2.2.2.2.1, g.2.2.2.2.2.trans h.2.2.2.2.2.1, g6.trans h.2.2.2.2.2.2.1, g7.trans h.2.2.2.2.2.2.2⟩
    · exact h
theorem passT_n (r : xR) : ∀ n k, k < 16 → passT r n k = r k
  | 0, _, _ => rfl
  | n + 1, k, hk => by
    rw [passT_s]
    split
    · rw [relR_n _ _ k hk, passT_n r n k hk]
    · exact passT_n r n k hk
theorem upR_0 (r : xR) : upR r 0 = r 0 + 1 := by
  unfold upR
  rw [fu_same, (passS_n r (nC r)).2.2.1]
theorem upR_k (r : xR) {k : Nat} (hk : k ≠ 0) : upR r k = passS r (nC r) k := by
  unfold upR
  rw [fu_ne hk]
theorem upR_nS (r : xR) : nS (upR r) = nS r := by rw [nS_of (r := passS r (nC r)) (upR_k r (by decide)), (passS_n r (nC r)).1]
theorem upR_nC (r : xR) : nC (upR r) = nC r := by rw [nC_of (r := passS r (nC r)) (upR_k r (by decide)), (passS_n r (nC r)).2.1]
set_option maxHeartbeats 4000000 in
set_option maxRecDepth 100000 in
theorem c_X4_passHour (l : Launch) (D : xD) (Bs sz : Nat) (kd : xKd) (rf : xRf) (M : xM) (b : Nat) (r : xR) (hS : ShSt kd rf b) (hV : Vk r) (hM : St M b r) (hVs : ∀ n, n ≤ nC r → Vk (passS r n)) (hVt : ∀ n, n ≤ nC r → Vk (passT (upR r) n)) : CtV l D Bs yX4_passHour cX4_passHour 2 none 4 [.ref b] sz kd rf M (fun M' => St M' b (hourR r) ∧ Off M M' b 25) := by
  refine Ctr.of (yv_X4_passHour.1.2.2.2.2) (List.forall_mem_cons.mpr ⟨rfl, fun _ h => absurd h List.not_mem_nil⟩) (Nat.le_of_ble_eq_true rfl) [some (.ref b), none] rfl ?_
  intro p e s m args below meth c X hin
  obtain ⟨n7, n7b⟩ := hV.n7
  have L54 : ∀ (k : Nat) (i : Nat) (M2 : xM), i + k = nC r → St M2 b (passT (upR r) i) → Off M M2 b 25 → G p l e (rmd 4) s m args below meth c D Bs 2 0 0 (MQ below (xQ D Bs (pV sz kd rf (fun M' => St M' b (hourR r) ∧ Off M M' b 25))) args s 0 0 (fun q => Bs ≤ q)) sz kd rf (M2) 54 [some (.ref b), some (vi (i : Int))] [] := by
    intro k
    induction k with
    | zero =>
      intro i M2 hik hM2 hO2
      have hV2 := hVt i (by omega)
      have hT := passT_n (upR r) i
      have e7 : passT (upR r) i 7 = r 7 := (hT 7 (by decide)).trans ((upR_k r (by decide)).trans (passS_n r (nC r)).2.2.2.2.2.2.2)
      obtain ⟨hb0, -, -, -, -, -, -, -, hb8⟩ := hM2.1
      obtain rfl : i = nC r := by omega
      refine G.iload_n X 55 dX4_passHour_54 rfl rfl ?_
      refine G.aload_n X 56 dX4_passHour_55 rfl rfl ?_
      refine G.getI X fl_X4_50 59 dX4_passHour_56 rfl (hS).1 ((hS).2.1 8 (by decide)) ?_
      refine G.icmp_ge X 89 62 dX4_passHour_59 (by decide) rfl (by omega) (by omega) (fun hc59 => ?_) (fun hc59 => ?_)
      · refine G.vret X dX4_passHour_89 ⟨Nat.le_refl _, Nat.le_refl _⟩ ⟨rfl, rfl, rfl, rfl, ?_⟩
        exact ⟨hM2, hO2⟩
      · exfalso; omega
    | succ k ih =>
      intro i M2 hik hM2 hO2
      have hV2 := hVt i (by omega)
      have hT := passT_n (upR r) i
      have e7 : passT (upR r) i 7 = r 7 := (hT 7 (by decide)).trans ((upR_k r (by decide)).trans (passS_n r (nC r)).2.2.2.2.2.2.2)
      obtain ⟨hb0, -, -, -, -, -, -, -, hb8⟩ := hM2.1
      have eC : nC (passT (upR r) i) = nC r := (nC_of (hT 7 (by decide))).trans (upR_nC r)
      obtain ⟨hv0, -, -, -, -, -⟩ := hV2.1
      obtain ⟨-, -, -, c3, -, -, -, -, -⟩ := hM2.2.2 (i) (by omega)
      obtain ⟨-, -, -, w3, -, -, -⟩ := hV2.2.2 (i) (by omega)
      refine G.iload_n X 55 dX4_passHour_54 rfl rfl ?_
      refine G.aload_n X 56 dX4_passHour_55 rfl rfl ?_
      refine G.getI X fl_X4_50 59 dX4_passHour_56 rfl (hS).1 ((hS).2.1 8 (by decide)) ?_
      refine G.icmp_ge X 89 62 dX4_passHour_59 (by decide) rfl (by omega) (by omega) (fun hc59 => ?_) (fun hc59 => ?_)
      · exfalso; omega
      · refine G.aload_n X 63 dX4_passHour_62 rfl rfl ?_
        refine G.getR X fl_X4_26 66 dX4_passHour_63 rfl (hS).1 (hS).2.2.2.1 ?_
        refine G.iload_n X 67 dX4_passHour_66 rfl rfl ?_
        refine G.aald X 68 dX4_passHour_67 rfl (ShSt.kc hS) (by decide) (ShSt.rc hS (by omega)) rfl (by omega) (by decide) ?_
        refine G.getI X fl_X4_146 71 dX4_passHour_68 rfl (ShSt.c hS (by omega)).1 ((ShSt.c hS (by omega)).2 3) ?_
        refine G.aload_n X 72 dX4_passHour_71 rfl rfl ?_
        refine G.getI X fl_X4_32 75 dX4_passHour_72 rfl (hS).1 ((hS).2.1 0 (by decide)) ?_
        refine G.icmp_ne X 83 78 dX4_passHour_75 (by decide) rfl (by omega) (by omega) (fun hc75 => ?_) (fun hc75 => ?_)
        · refine G.iinc (ls' := [_, _]) X 86 dX4_passHour_83 rfl rfl (by decide) rfl ?_
          refine G.goto X 54 dX4_passHour_86 (by decide) ?_
          refine ih (i + 1) _ (by omega) ?_ ?_
          · rw [passT_s]
            first
              | (rw [if_pos (by omega)]; exact h80.1)
              | (rw [if_neg (by omega)]; exact hM2)
          · first
              | exact hO2.trans h80.2
              | exact hO2
        · refine G.aload_n X 79 dX4_passHour_78 rfl rfl ?_
          refine G.iload_n X 80 dX4_passHour_79 rfl rfl ?_
          refine G.vV1 (d := 2) X ml_X4_149 yv_X4_release 83 dX4_passHour_80 rfl (c_X4_release l D Bs _ kd rf _ _ _ _ (hS) hV2 hM2 (by omega)) ⟨_, _, (hS).1, rfl, rfl⟩ (by decide) ⟨Nat.zero_le _, Nat.zero_le _⟩ (Nat.le_of_ble_eq_true rfl) (fun M80 h80 => ?_)
          refine G.iinc (ls' := [_, _]) X 86 dX4_passHour_83 rfl rfl (by decide) rfl ?_
          refine G.goto X 54 dX4_passHour_86 (by decide) ?_
          refine ih (i + 1) _ (by omega) ?_ ?_
          · rw [passT_s]
            first
              | (rw [if_pos (by omega)]; exact h80.1)
              | (rw [if_neg (by omega)]; exact hM2)
          · first
              | exact hO2.trans h80.2
              | exact hO2
  have L2 : ∀ (k : Nat) (i : Nat) (M1 : xM), i + k = nC r → St M1 b (passS r i) → Off M M1 b 25 → G p l e (rmd 4) s m args below meth c D Bs 2 0 0 (MQ below (xQ D Bs (pV sz kd rf (fun M' => St M' b (hourR r) ∧ Off M M' b 25))) args s 0 0 (fun q => Bs ≤ q)) sz kd rf (M1) 2 [some (.ref b), some (vi (i : Int))] [] := by
    intro k
    induction k with
    | zero =>
      intro i M1 hik hM1 hO1
      have hV1 := hVs i (by omega)
      obtain ⟨eS, eC, e0, e1, e2, e3, e6, e7⟩ := passS_n r i
      obtain ⟨n6, n6b⟩ := hV.n6
      obtain ⟨hb0, -, -, -, -, -, -, -, hb8⟩ := hM1.1
      obtain ⟨hv0, -, -, -, -, -⟩ := hV1.1
      obtain rfl : i = nC r := by omega
      refine G.iload_n X 3 dX4_passHour_2 rfl rfl ?_
      refine G.aload_n X 4 dX4_passHour_3 rfl rfl ?_
      refine G.getI X fl_X4_50 7 dX4_passHour_4 rfl (hS).1 ((hS).2.1 8 (by decide)) ?_
      refine G.icmp_ge X 42 10 dX4_passHour_7 (by decide) rfl (by omega) (by omega) (fun hc7 => ?_) (fun hc7 => ?_)
      · refine G.aload_n X 43 dX4_passHour_42 rfl rfl ?_
        refine G.dup X 44 dX4_passHour_43 rfl rfl ?_
        refine G.getf (v := vi (passS r (nC r) 0)) X fl_X4_32 47 dX4_passHour_44 rfl (hS).1 ((xV_int ((hS).2.1 0 (by decide))).trans (congrArg vi ?_)) ?_
        · exact hb0
        refine G.iconst X 48 dX4_passHour_47 rfl ?_
        refine G.iadd X 49 dX4_passHour_48 rfl ?_
        refine G.putI X fl_X4_32 fi_4_0 rfl 52 dX4_passHour_49 rfl (hS).1 ((hS).2.1 0 (by decide)) ?_
        refine G.iconst X 53 dX4_passHour_52 rfl ?_
        refine G.istore_n (ls' := [_, _]) X 54 dX4_passHour_53 rfl (by decide) rfl ?_
        exact L54 (nC r) 0 _ (by omega) (hM1.set0 (k := 0) (j := 0) (by rw [eS, eC]; exact ⟨n6b, n7b⟩) (by decide)) (hO1.mu (by omega))
      · exfalso; omega
    | succ k ih =>
      intro i M1 hik hM1 hO1
      have hV1 := hVs i (by omega)
      obtain ⟨eS, eC, e0, e1, e2, e3, e6, e7⟩ := passS_n r i
      obtain ⟨n6, n6b⟩ := hV.n6
      obtain ⟨hb0, -, -, -, -, -, -, -, hb8⟩ := hM1.1
      obtain ⟨hv0, -, -, -, -, -⟩ := hV1.1
      obtain ⟨-, -, c2, c3, -, -, -, -, -⟩ := hM1.2.2 (i) (by omega)
      obtain ⟨-, -, w2, w3, -, -, -⟩ := hV1.2.2 (i) (by omega)
      refine G.iload_n X 3 dX4_passHour_2 rfl rfl ?_
      refine G.aload_n X 4 dX4_passHour_3 rfl rfl ?_
      refine G.getI X fl_X4_50 7 dX4_passHour_4 rfl (hS).1 ((hS).2.1 8 (by decide)) ?_
      refine G.icmp_ge X 42 10 dX4_passHour_7 (by decide) rfl (by omega) (by omega) (fun hc7 => ?_) (fun hc7 => ?_)
      · exfalso; omega
      · refine G.aload_n X 11 dX4_passHour_10 rfl rfl ?_
        refine G.getR X fl_X4_26 14 dX4_passHour_11 rfl (hS).1 (hS).2.2.2.1 ?_
        refine G.iload_n X 15 dX4_passHour_14 rfl rfl ?_
        refine G.aald X 16 dX4_passHour_15 rfl (ShSt.kc hS) (by decide) (ShSt.rc hS (by omega)) rfl (by omega) (by decide) ?_
        refine G.aload_n X 17 dX4_passHour_16 rfl rfl ?_
        refine G.getI X fl_X4_32 20 dX4_passHour_17 rfl (hS).1 ((hS).2.1 0 (by decide)) ?_
        refine G.vI1 (d := 0) X ml_X4_115 yv_X0_isOpenIn 23 dX4_passHour_20 rfl (c_X0_isOpenIn l D Bs _ kd rf _ _ _ (ShSt.c hS (by omega)) (by omega) (by omega) (by omega)) ⟨_, _, (ShSt.c hS (by omega)).1, rfl, rfl⟩ (by decide) ⟨Nat.zero_le _, Nat.zero_le _⟩ (Nat.le_of_ble_eq_true rfl) (fun r20 M20 h20 => ?_)
        obtain ⟨hr20, hm20⟩ := h20
        subst hr20
        obtain rfl := hm20.symm
        refine G.ifb_eq X 36 26 dX4_passHour_23 (by decide) rfl (fun hc23 => ?_) (fun hc23 => ?_)
        · refine G.iinc (ls' := [_, _]) X 39 dX4_passHour_36 rfl rfl (by decide) rfl ?_
          refine G.goto X 2 dX4_passHour_39 (by decide) ?_
          refine ih (i + 1) _ (by omega) ?_ ?_
          · rw [passS_s]
            first
              | (rw [if_pos (openB_iff.mpr (by omega))]; exact h33.1)
              | (rw [if_neg (fun q => by have := openB_iff.mp q; omega)]; exact hM1)
          · first
              | exact hO1.trans h33.2
              | exact hO1
        · refine G.aload_n X 27 dX4_passHour_26 rfl rfl ?_
          refine G.aload_n X 28 dX4_passHour_27 rfl rfl ?_
          refine G.getR X fl_X4_26 31 dX4_passHour_28 rfl (hS).1 (hS).2.2.2.1 ?_
          refine G.iload_n X 32 dX4_passHour_31 rfl rfl ?_
          refine G.aald X 33 dX4_passHour_32 rfl (ShSt.kc hS) (by decide) (ShSt.rc hS (by omega)) rfl (by omega) (by decide) ?_
          refine G.vV1 (d := 3) X ml_X4_143 yv_X4_lightOrDarken 36 dX4_passHour_33 rfl (c_X4_lightOrDarken l D Bs _ kd rf _ _ _ _ (hS) hV1 hM1 (by omega)) ⟨_, _, (hS).1, rfl, rfl⟩ (by decide) ⟨Nat.zero_le _, Nat.zero_le _⟩ (Nat.le_of_ble_eq_true rfl) (fun M33 h33 => ?_)
          refine G.iinc (ls' := [_, _]) X 39 dX4_passHour_36 rfl rfl (by decide) rfl ?_
          refine G.goto X 2 dX4_passHour_39 (by decide) ?_
          refine ih (i + 1) _ (by omega) ?_ ?_
          · rw [passS_s]
            first
              | (rw [if_pos (openB_iff.mpr (by omega))]; exact h33.1)
              | (rw [if_neg (fun q => by have := openB_iff.mp q; omega)]; exact hM1)
          · first
              | exact hO1.trans h33.2
              | exact hO1
  refine G.iconst X 1 dX4_passHour_0 rfl ?_
  refine G.istore_n (ls' := [_, _]) X 2 dX4_passHour_1 rfl (by decide) rfl ?_
  exact L2 (nC r) 0 M (by omega) hM Off.rf
def yardZ (r : xR) : Nat → Int
  | 0 => 0
  | n + 1 => yardZ r n + (if fS r n 5 = 0 then 1 else 0)
theorem yardZ_s (r : xR) (n : Nat) : yardZ r (n + 1) = yardZ r n + (if fS r n 5 = 0 then 1 else 0) := rfl
set_option maxHeartbeats 4000000 in
set_option maxRecDepth 100000 in
theorem c_X4_yardSize (l : Launch) (D : xD) (Bs sz : Nat) (kd : xKd) (rf : xRf) (M : xM) (b : Nat) (r : xR) (hS : ShSt kd rf b) (hV : Vk r) (hM : St M b r) : CtI l D Bs yX4_yardSize cX4_yardSize 3 (some .int) 0 [.ref b] sz kd rf M (fun q M' => q = yardZ r (nS r) ∧ M' = M) := by
  refine Ctr.of (yv_X4_yardSize.1.2.2.2.2) (List.forall_mem_cons.mpr ⟨rfl, fun _ h => absurd h List.not_mem_nil⟩) (Nat.le_of_ble_eq_true rfl) [some (.ref b), none, none] rfl ?_
  intro p e s m args below meth c X hin
  obtain ⟨-, -, -, -, -, -, -, hb7, -⟩ := hM.1
  obtain ⟨n6, n6b⟩ := hV.n6
  obtain ⟨n7, n7b⟩ := hV.n7
  have L4 : ∀ (k : Nat) (i : Nat) (q : Int), i + k = nS r → q = yardZ r i → G p l e (rmd 0) s m args below meth c D Bs 3 0 0 (MQ below (xQ D Bs (pI sz kd rf (fun q M' => q = yardZ r (nS r) ∧ M' = M))) args s 0 0 (fun q => Bs ≤ q)) sz kd rf (M) 4 [some (.ref b), some (vi q), some (vi (i : Int))] [] := by
    intro k
    induction k with
    | zero =>
      intro i q hik hq
      refine G.iload_n X 5 dX4_yardSize_4 rfl rfl ?_
      refine G.aload_n X 6 dX4_yardSize_5 rfl rfl ?_
      refine G.getI X fl_X4_47 9 dX4_yardSize_6 rfl (hS).1 ((hS).2.1 7 (by decide)) ?_
      refine G.icmp_ge X 40 12 dX4_yardSize_9 (by decide) rfl (by omega) (by omega) (fun hc9 => ?_) (fun hc9 => ?_)
      · refine G.iload_n X 41 dX4_yardSize_40 rfl rfl ?_
        refine G.iret X dX4_yardSize_41 ⟨Nat.le_refl _, Nat.le_refl _⟩ ⟨rfl, rfl, rfl, _, rfl, ?_⟩
        exact ⟨by rw [hq, show nS r = i by omega], rfl⟩
      · exfalso; omega
    | succ k ih =>
      intro i q hik hq
      obtain ⟨-, -, -, -, -, g5, -, -, -⟩ := hM.2.1 (i) (by omega)
      obtain ⟨-, -, -, -, -, u5, -, -⟩ := hV.2.1 (i) (by omega)
      refine G.iload_n X 5 dX4_yardSize_4 rfl rfl ?_
      refine G.aload_n X 6 dX4_yardSize_5 rfl rfl ?_
      refine G.getI X fl_X4_47 9 dX4_yardSize_6 rfl (hS).1 ((hS).2.1 7 (by decide)) ?_
      refine G.icmp_ge X 40 12 dX4_yardSize_9 (by decide) rfl (by omega) (by omega) (fun hc9 => ?_) (fun hc9 => ?_)
      · exfalso; omega
      · refine G.iload_n X 13 dX4_yardSize_12 rfl rfl ?_
        refine G.aload_n X 14 dX4_yardSize_13 rfl rfl ?_
        refine G.getR X fl_X4_20 17 dX4_yardSize_14 rfl (hS).1 (hS).2.2.1 ?_
        refine G.iload_n X 18 dX4_yardSize_17 rfl rfl ?_
        refine G.aald X 19 dX4_yardSize_18 rfl (ShSt.kg hS) (by decide) (ShSt.rg hS (by omega)) rfl (by omega) (by decide) ?_
        refine G.getI X fl_X4_101 22 dX4_yardSize_19 rfl (ShSt.g hS (by omega)).1 ((ShSt.g hS (by omega)).2 5) ?_
        refine G.bipush X 24 dX4_yardSize_22 rfl (by decide) ?_
        refine G.icmp_ne X 31 27 dX4_yardSize_24 (by decide) rfl (by omega) (by omega) (fun hc24 => ?_) (fun hc24 => ?_)
        · refine G.iconst X 32 dX4_yardSize_31 rfl ?_
          refine G.iadd X 33 dX4_yardSize_32 rfl ?_
          refine G.istore_n (ls' := [_, _, _]) X 34 dX4_yardSize_33 rfl (by decide) rfl ?_
          refine G.iinc (ls' := [_, _, _]) X 37 dX4_yardSize_34 rfl rfl (by decide) rfl ?_
          refine G.goto X 4 dX4_yardSize_37 (by decide) ?_
          refine ih (i + 1) _ (by omega) ?_
          rw [yardZ_s]
          first
            | (rw [if_pos (by omega)]; omega)
            | (rw [if_neg (by omega)]; omega)
        · refine G.iconst X 28 dX4_yardSize_27 rfl ?_
          refine G.goto X 32 dX4_yardSize_28 (by decide) ?_
          refine G.iadd X 33 dX4_yardSize_32 rfl ?_
          refine G.istore_n (ls' := [_, _, _]) X 34 dX4_yardSize_33 rfl (by decide) rfl ?_
          refine G.iinc (ls' := [_, _, _]) X 37 dX4_yardSize_34 rfl rfl (by decide) rfl ?_
          refine G.goto X 4 dX4_yardSize_37 (by decide) ?_
          refine ih (i + 1) _ (by omega) ?_
          rw [yardZ_s]
          first
            | (rw [if_pos (by omega)]; omega)
            | (rw [if_neg (by omega)]; omega)
  refine G.iconst X 1 dX4_yardSize_0 rfl ?_
  refine G.istore_n (ls' := [_, _, _]) X 2 dX4_yardSize_1 rfl (by decide) rfl ?_
  refine G.iconst X 3 dX4_yardSize_2 rfl ?_
  refine G.istore_n (ls' := [_, _, _]) X 4 dX4_yardSize_3 rfl (by decide) rfl ?_
  exact L4 (nS r) 0 0 (by omega) rfl
set_option maxHeartbeats 4000000 in
set_option maxRecDepth 100000 in
theorem c_X4_fuelInTanks (l : Launch) (D : xD) (Bs sz : Nat) (kd : xKd) (rf : xRf) (M : xM) (b : Nat) (r : xR) (hS : ShSt kd rf b) (hV : Vk r) (hM : St M b r) : CtI l D Bs yX4_fuelInTanks cX4_fuelInTanks 3 (some .int) 0 [.ref b] sz kd rf M (fun q M' => q = sumN (fun i => fS r i 4) (nS r) ∧ M' = M) := by
  refine Ctr.of (yv_X4_fuelInTanks.1.2.2.2.2) (List.forall_mem_cons.mpr ⟨rfl, fun _ h => absurd h List.not_mem_nil⟩) (Nat.le_of_ble_eq_true rfl) [some (.ref b), none, none] rfl ?_
  intro p e s m args below meth c X hin
  obtain ⟨-, -, -, -, -, -, -, hb7, hb8⟩ := hM.1
  obtain ⟨n6, n6b⟩ := hV.n6
  obtain ⟨n7, n7b⟩ := hV.n7
  have L4 : ∀ (k : Nat) (i : Nat) (q : Int), i + k = nS r → q = sumN (fun i => fS r i 4) i → G p l e (rmd 0) s m args below meth c D Bs 3 0 0 (MQ below (xQ D Bs (pI sz kd rf (fun q M' => q = sumN (fun i => fS r i 4) (nS r) ∧ M' = M))) args s 0 0 (fun q => Bs ≤ q)) sz kd rf (M) 4 [some (.ref b), some (vi q), some (vi (i : Int))] [] := by
    intro k
    induction k with
    | zero =>
      intro i q hik hq
      refine G.iload_n X 5 dX4_fuelInTanks_4 rfl rfl ?_
      refine G.aload_n X 6 dX4_fuelInTanks_5 rfl rfl ?_
      refine G.getI X fl_X4_47 9 dX4_fuelInTanks_6 rfl (hS).1 ((hS).2.1 7 (by decide)) ?_
      refine G.icmp_ge X 30 12 dX4_fuelInTanks_9 (by decide) rfl (by omega) (by omega) (fun hc9 => ?_) (fun hc9 => ?_)
      · refine G.iload_n X 31 dX4_fuelInTanks_30 rfl rfl ?_
        refine G.iret X dX4_fuelInTanks_31 ⟨Nat.le_refl _, Nat.le_refl _⟩ ⟨rfl, rfl, rfl, _, rfl, ?_⟩
        exact ⟨by rw [hq, show nS r = i by omega], rfl⟩
      · exfalso; omega
    | succ k ih =>
      intro i q hik hq
      obtain ⟨-, -, -, -, g4, -, -, -, -⟩ := hM.2.1 (i) (by omega)
      refine G.iload_n X 5 dX4_fuelInTanks_4 rfl rfl ?_
      refine G.aload_n X 6 dX4_fuelInTanks_5 rfl rfl ?_
      refine G.getI X fl_X4_47 9 dX4_fuelInTanks_6 rfl (hS).1 ((hS).2.1 7 (by decide)) ?_
      refine G.icmp_ge X 30 12 dX4_fuelInTanks_9 (by decide) rfl (by omega) (by omega) (fun hc9 => ?_) (fun hc9 => ?_)
      · exfalso; omega
      · refine G.iload_n X 13 dX4_fuelInTanks_12 rfl rfl ?_
        refine G.aload_n X 14 dX4_fuelInTanks_13 rfl rfl ?_
        refine G.getR X fl_X4_20 17 dX4_fuelInTanks_14 rfl (hS).1 (hS).2.2.1 ?_
        refine G.iload_n X 18 dX4_fuelInTanks_17 rfl rfl ?_
        refine G.aald X 19 dX4_fuelInTanks_18 rfl (ShSt.kg hS) (by decide) (ShSt.rg hS (by omega)) rfl (by omega) (by decide) ?_
        refine G.getI X fl_X4_76 22 dX4_fuelInTanks_19 rfl (ShSt.g hS (by omega)).1 ((ShSt.g hS (by omega)).2 4) ?_
        refine G.iadd X 23 dX4_fuelInTanks_22 rfl ?_
        refine G.istore_n (ls' := [_, _, _]) X 24 dX4_fuelInTanks_23 rfl (by decide) rfl ?_
        refine G.iinc (ls' := [_, _, _]) X 27 dX4_fuelInTanks_24 rfl rfl (by decide) rfl ?_
        refine G.goto X 4 dX4_fuelInTanks_27 (by decide) ?_
        refine ih (i + 1) _ (by omega) ?_
        rw [sumN_s, g4, hq]
  refine G.iconst X 1 dX4_fuelInTanks_0 rfl ?_
  refine G.istore_n (ls' := [_, _, _]) X 2 dX4_fuelInTanks_1 rfl (by decide) rfl ?_
  refine G.iconst X 3 dX4_fuelInTanks_2 rfl ?_
  refine G.istore_n (ls' := [_, _, _]) X 4 dX4_fuelInTanks_3 rfl (by decide) rfl ?_
  exact L4 (nS r) 0 0 (by omega) rfl
set_option maxHeartbeats 4000000 in
set_option maxRecDepth 100000 in
theorem c_X4_litTotal (l : Launch) (D : xD) (Bs sz : Nat) (kd : xKd) (rf : xRf) (M : xM) (b : Nat) (r : xR) (hS : ShSt kd rf b) (hV : Vk r) (hM : St M b r) : CtI l D Bs yX4_litTotal cX4_litTotal 3 (some .int) 0 [.ref b] sz kd rf M (fun q M' => q = sumN (fun i => fC r i 5) (nC r) ∧ M' = M) := by
  refine Ctr.of (yv_X4_litTotal.1.2.2.2.2) (List.forall_mem_cons.mpr ⟨rfl, fun _ h => absurd h List.not_mem_nil⟩) (Nat.le_of_ble_eq_true rfl) [some (.ref b), none, none] rfl ?_
  intro p e s m args below meth c X hin
  obtain ⟨-, -, -, -, -, -, -, hb7, hb8⟩ := hM.1
  obtain ⟨n6, n6b⟩ := hV.n6
  obtain ⟨n7, n7b⟩ := hV.n7
  have L4 : ∀ (k : Nat) (i : Nat) (q : Int), i + k = nC r → q = sumN (fun i => fC r i 5) i → G p l e (rmd 0) s m args below meth c D Bs 3 0 0 (MQ below (xQ D Bs (pI sz kd rf (fun q M' => q = sumN (fun i => fC r i 5) (nC r) ∧ M' = M))) args s 0 0 (fun q => Bs ≤ q)) sz kd rf (M) 4 [some (.ref b), some (vi q), some (vi (i : Int))] [] := by
    intro k
    induction k with
    | zero =>
      intro i q hik hq
      refine G.iload_n X 5 dX4_litTotal_4 rfl rfl ?_
      refine G.aload_n X 6 dX4_litTotal_5 rfl rfl ?_
      refine G.getI X fl_X4_50 9 dX4_litTotal_6 rfl (hS).1 ((hS).2.1 8 (by decide)) ?_
      refine G.icmp_ge X 30 12 dX4_litTotal_9 (by decide) rfl (by omega) (by omega) (fun hc9 => ?_) (fun hc9 => ?_)
      · refine G.iload_n X 31 dX4_litTotal_30 rfl rfl ?_
        refine G.iret X dX4_litTotal_31 ⟨Nat.le_refl _, Nat.le_refl _⟩ ⟨rfl, rfl, rfl, _, rfl, ?_⟩
        exact ⟨by rw [hq, show nC r = i by omega], rfl⟩
      · exfalso; omega
    | succ k ih =>
      intro i q hik hq
      obtain ⟨-, -, -, -, -, g5, -, -, -⟩ := hM.2.2 (i) (by omega)
      refine G.iload_n X 5 dX4_litTotal_4 rfl rfl ?_
      refine G.aload_n X 6 dX4_litTotal_5 rfl rfl ?_
      refine G.getI X fl_X4_50 9 dX4_litTotal_6 rfl (hS).1 ((hS).2.1 8 (by decide)) ?_
      refine G.icmp_ge X 30 12 dX4_litTotal_9 (by decide) rfl (by omega) (by omega) (fun hc9 => ?_) (fun hc9 => ?_)
      · exfalso; omega
      · refine G.iload_n X 13 dX4_litTotal_12 rfl rfl ?_
        refine G.aload_n X 14 dX4_litTotal_13 rfl rfl ?_
        refine G.getR X fl_X4_26 17 dX4_litTotal_14 rfl (hS).1 (hS).2.2.2.1 ?_
        refine G.iload_n X 18 dX4_litTotal_17 rfl rfl ?_
        refine G.aald X 19 dX4_litTotal_18 rfl (ShSt.kc hS) (by decide) (ShSt.rc hS (by omega)) rfl (by omega) (by decide) ?_
        refine G.getI X fl_X4_171 22 dX4_litTotal_19 rfl (ShSt.c hS (by omega)).1 ((ShSt.c hS (by omega)).2 5) ?_
        refine G.iadd X 23 dX4_litTotal_22 rfl ?_
        refine G.istore_n (ls' := [_, _, _]) X 24 dX4_litTotal_23 rfl (by decide) rfl ?_
        refine G.iinc (ls' := [_, _, _]) X 27 dX4_litTotal_24 rfl rfl (by decide) rfl ?_
        refine G.goto X 4 dX4_litTotal_27 (by decide) ?_
        refine ih (i + 1) _ (by omega) ?_
        rw [sumN_s, g5, hq]
  refine G.iconst X 1 dX4_litTotal_0 rfl ?_
  refine G.istore_n (ls' := [_, _, _]) X 2 dX4_litTotal_1 rfl (by decide) rfl ?_
  refine G.iconst X 3 dX4_litTotal_2 rfl ?_
  refine G.istore_n (ls' := [_, _, _]) X 4 dX4_litTotal_3 rfl (by decide) rfl ?_
  exact L4 (nC r) 0 0 (by omega) rfl
set_option maxHeartbeats 4000000 in
set_option maxRecDepth 100000 in
theorem c_X4_darkTotal (l : Launch) (D : xD) (Bs sz : Nat) (kd : xKd) (rf : xRf) (M : xM) (b : Nat) (r : xR) (hS : ShSt kd rf b) (hV : Vk r) (hM : St M b r) : CtI l D Bs yX4_darkTotal cX4_darkTotal 3 (some .int) 0 [.ref b] sz kd rf M (fun q M' => q = sumN (fun i => fC r i 6) (nC r) ∧ M' = M) := by
  refine Ctr.of (yv_X4_darkTotal.1.2.2.2.2) (List.forall_mem_cons.mpr ⟨rfl, fun _ h => absurd h List.not_mem_nil⟩) (Nat.le_of_ble_eq_true rfl) [some (.ref b), none, none] rfl ?_
  intro p e s m args below meth c X hin
  obtain ⟨-, -, -, -, -, -, -, hb7, hb8⟩ := hM.1
  obtain ⟨n6, n6b⟩ := hV.n6
  obtain ⟨n7, n7b⟩ := hV.n7
  have L4 : ∀ (k : Nat) (i : Nat) (q : Int), i + k = nC r → q = sumN (fun i => fC r i 6) i → G p l e (rmd 0) s m args below meth c D Bs 3 0 0 (MQ below (xQ D Bs (pI sz kd rf (fun q M' => q = sumN (fun i => fC r i 6) (nC r) ∧ M' = M))) args s 0 0 (fun q => Bs ≤ q)) sz kd rf (M) 4 [some (.ref b), some (vi q), some (vi (i : Int))] [] := by
    intro k
    induction k with
    | zero =>
      intro i q hik hq
      refine G.iload_n X 5 dX4_darkTotal_4 rfl rfl ?_
      refine G.aload_n X 6 dX4_darkTotal_5 rfl rfl ?_
      refine G.getI X fl_X4_50 9 dX4_darkTotal_6 rfl (hS).1 ((hS).2.1 8 (by decide)) ?_
      refine G.icmp_ge X 30 12 dX4_darkTotal_9 (by decide) rfl (by omega) (by omega) (fun hc9 => ?_) (fun hc9 => ?_)
      · refine G.iload_n X 31 dX4_darkTotal_30 rfl rfl ?_
        refine G.iret X dX4_darkTotal_31 ⟨Nat.le_refl _, Nat.le_refl _⟩ ⟨rfl, rfl, rfl, _, rfl, ?_⟩
        exact ⟨by rw [hq, show nC r = i by omega], rfl⟩
      · exfalso; omega
    | succ k ih =>
      intro i q hik hq
      obtain ⟨-, -, -, -, -, -, g6, -, -⟩ := hM.2.2 (i) (by omega)
      refine G.iload_n X 5 dX4_darkTotal_4 rfl rfl ?_
      refine G.aload_n X 6 dX4_darkTotal_5 rfl rfl ?_
      refine G.getI X fl_X4_50 9 dX4_darkTotal_6 rfl (hS).1 ((hS).2.1 8 (by decide)) ?_
      refine G.icmp_ge X 30 12 dX4_darkTotal_9 (by decide) rfl (by omega) (by omega) (fun hc9 => ?_) (fun hc9 => ?_)
      · exfalso; omega
      · refine G.iload_n X 13 dX4_darkTotal_12 rfl rfl ?_
        refine G.aload_n X 14 dX4_darkTotal_13 rfl rfl ?_
        refine G.getR X fl_X4_26 17 dX4_darkTotal_14 rfl (hS).1 (hS).2.2.2.1 ?_
        refine G.iload_n X 18 dX4_darkTotal_17 rfl rfl ?_
        refine G.aald X 19 dX4_darkTotal_18 rfl (ShSt.kc hS) (by decide) (ShSt.rc hS (by omega)) rfl (by omega) (by decide) ?_
        refine G.getI X fl_X4_168 22 dX4_darkTotal_19 rfl (ShSt.c hS (by omega)).1 ((ShSt.c hS (by omega)).2 6) ?_
        refine G.iadd X 23 dX4_darkTotal_22 rfl ?_
        refine G.istore_n (ls' := [_, _, _]) X 24 dX4_darkTotal_23 rfl (by decide) rfl ?_
        refine G.iinc (ls' := [_, _, _]) X 27 dX4_darkTotal_24 rfl rfl (by decide) rfl ?_
        refine G.goto X 4 dX4_darkTotal_27 (by decide) ?_
        refine ih (i + 1) _ (by omega) ?_
        rw [sumN_s, g6, hq]
  refine G.iconst X 1 dX4_darkTotal_0 rfl ?_
  refine G.istore_n (ls' := [_, _, _]) X 2 dX4_darkTotal_1 rfl (by decide) rfl ?_
  refine G.iconst X 3 dX4_darkTotal_2 rfl ?_
  refine G.istore_n (ls' := [_, _, _]) X 4 dX4_darkTotal_3 rfl (by decide) rfl ?_
  exact L4 (nC r) 0 0 (by omega) rfl
set_option maxHeartbeats 4000000 in
set_option maxRecDepth 100000 in
theorem c_X4_billTotal (l : Launch) (D : xD) (Bs sz : Nat) (kd : xKd) (rf : xRf) (M : xM) (b : Nat) (r : xR) (hS : ShSt kd rf b) (hV : Vk r) (hM : St M b r) : CtI l D Bs yX4_billTotal cX4_billTotal 3 (some .int) 0 [.ref b] sz kd rf M (fun q M' => q = sumN (fun i => fC r i 7) (nC r) ∧ M' = M) := by
  refine Ctr.of (yv_X4_billTotal.1.2.2.2.2) (List.forall_mem_cons.mpr ⟨rfl, fun _ h => absurd h List.not_mem_nil⟩) (Nat.le_of_ble_eq_true rfl) [some (.ref b), none, none] rfl ?_
  intro p e s m args below meth c X hin
  obtain ⟨-, -, -, -, -, -, -, hb7, hb8⟩ := hM.1
  obtain ⟨n6, n6b⟩ := hV.n6
  obtain ⟨n7, n7b⟩ := hV.n7
  have L4 : ∀ (k : Nat) (i : Nat) (q : Int), i + k = nC r → q = sumN (fun i => fC r i 7) i → G p l e (rmd 0) s m args below meth c D Bs 3 0 0 (MQ below (xQ D Bs (pI sz kd rf (fun q M' => q = sumN (fun i => fC r i 7) (nC r) ∧ M' = M))) args s 0 0 (fun q => Bs ≤ q)) sz kd rf (M) 4 [some (.ref b), some (vi q), some (vi (i : Int))] [] := by
    intro k
    induction k with
    | zero =>
      intro i q hik hq
      refine G.iload_n X 5 dX4_billTotal_4 rfl rfl ?_
      refine G.aload_n X 6 dX4_billTotal_5 rfl rfl ?_
      refine G.getI X fl_X4_50 9 dX4_billTotal_6 rfl (hS).1 ((hS).2.1 8 (by decide)) ?_
      refine G.icmp_ge X 30 12 dX4_billTotal_9 (by decide) rfl (by omega) (by omega) (fun hc9 => ?_) (fun hc9 => ?_)
      · refine G.iload_n X 31 dX4_billTotal_30 rfl rfl ?_
        refine G.iret X dX4_billTotal_31 ⟨Nat.le_refl _, Nat.le_refl _⟩ ⟨rfl, rfl, rfl, _, rfl, ?_⟩
        exact ⟨by rw [hq, show nC r = i by omega], rfl⟩
      · exfalso; omega
    | succ k ih =>
      intro i q hik hq
      obtain ⟨-, -, -, -, -, -, -, g7, -⟩ := hM.2.2 (i) (by omega)
      refine G.iload_n X 5 dX4_billTotal_4 rfl rfl ?_
      refine G.aload_n X 6 dX4_billTotal_5 rfl rfl ?_
      refine G.getI X fl_X4_50 9 dX4_billTotal_6 rfl (hS).1 ((hS).2.1 8 (by decide)) ?_
      refine G.icmp_ge X 30 12 dX4_billTotal_9 (by decide) rfl (by omega) (by omega) (fun hc9 => ?_) (fun hc9 => ?_)
      · exfalso; omega
      · refine G.iload_n X 13 dX4_billTotal_12 rfl rfl ?_
        refine G.aload_n X 14 dX4_billTotal_13 rfl rfl ?_
        refine G.getR X fl_X4_26 17 dX4_billTotal_14 rfl (hS).1 (hS).2.2.2.1 ?_
        refine G.iload_n X 18 dX4_billTotal_17 rfl rfl ?_
        refine G.aald X 19 dX4_billTotal_18 rfl (ShSt.kc hS) (by decide) (ShSt.rc hS (by omega)) rfl (by omega) (by decide) ?_
        refine G.getI X fl_X4_174 22 dX4_billTotal_19 rfl (ShSt.c hS (by omega)).1 ((ShSt.c hS (by omega)).2 7) ?_
        refine G.iadd X 23 dX4_billTotal_22 rfl ?_
        refine G.istore_n (ls' := [_, _, _]) X 24 dX4_billTotal_23 rfl (by decide) rfl ?_
        refine G.iinc (ls' := [_, _, _]) X 27 dX4_billTotal_24 rfl rfl (by decide) rfl ?_
        refine G.goto X 4 dX4_billTotal_27 (by decide) ?_
        refine ih (i + 1) _ (by omega) ?_
        rw [sumN_s, g7, hq]
  refine G.iconst X 1 dX4_billTotal_0 rfl ?_
  refine G.istore_n (ls' := [_, _, _]) X 2 dX4_billTotal_1 rfl (by decide) rfl ?_
  refine G.iconst X 3 dX4_billTotal_2 rfl ?_
  refine G.istore_n (ls' := [_, _, _]) X 4 dX4_billTotal_3 rfl (by decide) rfl ?_
  exact L4 (nC r) 0 0 (by omega) rfl
def darkM (r r0 : xR) : Nat → Int
  | 0 => 0
  | n + 1 => if darkM r r0 n < fC r n 6 - fC r0 n 6 then fC r n 6 - fC r0 n 6 else darkM r r0 n
def darkB (r r0 : xR) : Nat → Int
  | 0 => -5
  | n + 1 => if darkM r r0 n < fC r n 6 - fC r0 n 6 then (n : Int) else darkB r r0 n
theorem darkM_s (r r0 : xR) (n : Nat) : darkM r r0 (n + 1) = if darkM r r0 n < fC r n 6 - fC r0 n 6 then fC r n 6 - fC r0 n 6 else darkM r r0 n := rfl
theorem darkB_s (r r0 : xR) (n : Nat) : darkB r r0 (n + 1) = if darkM r r0 n < fC r n 6 - fC r0 n 6 then (n : Int) else darkB r r0 n := rfl
set_option maxHeartbeats 4000000 in
set_option maxRecDepth 100000 in
theorem c_X4_darkestSince (l : Launch) (D : xD) (Bs sz : Nat) (kd : xKd) (rf : xRf) (M : xM) (b b0 : Nat) (r r0 : xR) (hS : ShSt kd rf b) (hS0 : ShSt kd rf b0) (hV : Vk r) (hM : St M b r) (hV0 : Vk r0) (hM0 : St M b0 r0) (hn : nC r = nC r0) : CtI l D Bs yX4_darkestSince cX4_darkestSince 6 (some .int) 0 [.ref b, .ref b0] sz kd rf M (fun q M' => q = darkB r r0 (nC r0) ∧ M' = M) := by
  refine Ctr.of (yv_X4_darkestSince.1.2.2.2.2) (List.forall_mem_cons.mpr ⟨rfl, List.forall_mem_cons.mpr ⟨rfl, fun _ h => absurd h List.not_mem_nil⟩⟩) (Nat.le_of_ble_eq_true rfl) [some (.ref b), some (.ref b0), none, none, none, none] rfl ?_
  intro p e s m args below meth c X hin
  obtain ⟨-, -, -, -, -, -, -, -, ha8⟩ := hM0.1
  obtain ⟨n7, n7b⟩ := hV.n7
  obtain ⟨m7, m7b⟩ := hV0.n7
  have L8 : ∀ (k : Nat) (i : Nat) (q t : Int), i + k = nC r0 → q = darkB r r0 i → t = darkM r r0 i → 0 ≤ t ∧ t ≤ 40000 → G p l e (rmd 0) s m args below meth c D Bs 6 0 0 (MQ below (xQ D Bs (pI sz kd rf (fun q M' => q = darkB r r0 (nC r0) ∧ M' = M))) args s 0 0 (fun q => Bs ≤ q)) sz kd rf (M) 8 [some (.ref b), some (.ref b0), some (vi q), some (vi t), some (vi (i : Int)), none] [] := by
    intro k
    induction k with
    | zero =>
      intro i q t hik hq ht htr
      refine G.iload X 10 dX4_darkestSince_8 rfl rfl ?_
      refine G.aload_n X 11 dX4_darkestSince_10 rfl rfl ?_
      refine G.getI X fl_X4_50 14 dX4_darkestSince_11 rfl (hS0).1 ((hS0).2.1 8 (by decide)) ?_
      refine G.icmp_ge X 58 17 dX4_darkestSince_14 (by decide) rfl (by omega) (by omega) (fun hc14 => ?_) (fun hc14 => ?_)
      · refine G.iload_n X 59 dX4_darkestSince_58 rfl rfl ?_
        refine G.iret X dX4_darkestSince_59 ⟨Nat.le_refl _, Nat.le_refl _⟩ ⟨rfl, rfl, rfl, _, rfl, ?_⟩
        exact ⟨by rw [hq, show nC r0 = i by omega], rfl⟩
      · exfalso; omega
    | succ k ih =>
      intro i q t hik hq ht htr
      obtain ⟨-, -, -, -, -, -, g6, -, -⟩ := hM.2.2 (i) (by omega)
      obtain ⟨-, -, -, -, -, -, f6, -, -⟩ := hM0.2.2 (i) (by omega)
      obtain ⟨-, -, -, -, -, u6, -⟩ := hV.2.2 (i) (by omega)
      obtain ⟨-, -, -, -, -, v6, -⟩ := hV0.2.2 (i) (by omega)
      refine G.iload X 10 dX4_darkestSince_8 rfl rfl ?_
      refine G.aload_n X 11 dX4_darkestSince_10 rfl rfl ?_
      refine G.getI X fl_X4_50 14 dX4_darkestSince_11 rfl (hS0).1 ((hS0).2.1 8 (by decide)) ?_
      refine G.icmp_ge X 58 17 dX4_darkestSince_14 (by decide) rfl (by omega) (by omega) (fun hc14 => ?_) (fun hc14 => ?_)
      · exfalso; omega
      · refine G.aload_n X 18 dX4_darkestSince_17 rfl rfl ?_
        refine G.getR X fl_X4_26 21 dX4_darkestSince_18 rfl (hS).1 (hS).2.2.2.1 ?_
        refine G.iload X 23 dX4_darkestSince_21 rfl rfl ?_
        refine G.aald X 24 dX4_darkestSince_23 rfl (ShSt.kc hS) (by decide) (ShSt.rc hS (by omega)) rfl (by omega) (by decide) ?_
        refine G.getI X fl_X4_168 27 dX4_darkestSince_24 rfl (ShSt.c hS (by omega)).1 ((ShSt.c hS (by omega)).2 6) ?_
        refine G.aload_n X 28 dX4_darkestSince_27 rfl rfl ?_
        refine G.getR X fl_X4_26 31 dX4_darkestSince_28 rfl (hS0).1 (hS0).2.2.2.1 ?_
        refine G.iload X 33 dX4_darkestSince_31 rfl rfl ?_
        refine G.aald X 34 dX4_darkestSince_33 rfl (ShSt.kc hS0) (by decide) (ShSt.rc hS0 (by omega)) rfl (by omega) (by decide) ?_
        refine G.getI X fl_X4_168 37 dX4_darkestSince_34 rfl (ShSt.c hS0 (by omega)).1 ((ShSt.c hS0 (by omega)).2 6) ?_
        refine G.isub X 38 dX4_darkestSince_37 rfl ?_
        refine G.istore (ls' := [_, _, _, _, _, _]) X 40 dX4_darkestSince_38 rfl (by decide) rfl ?_
        refine G.iload X 42 dX4_darkestSince_40 rfl rfl ?_
        refine G.iload_n X 43 dX4_darkestSince_42 rfl rfl ?_
        refine G.icmp_le X 52 46 dX4_darkestSince_43 (by decide) rfl (by omega) (by omega) (fun hc43 => ?_) (fun hc43 => ?_)
        · refine G.iinc (ls' := [_, _, _, _, _, _]) X 55 dX4_darkestSince_52 rfl rfl (by decide) rfl ?_
          refine G.goto X 8 dX4_darkestSince_55 (by decide) ?_
          refine G.drop 5 ?_
          refine ih (i + 1) _ _ (by omega) ?_ ?_ (by omega)
          · rw [darkB_s]
            first
              | (rw [if_pos (by omega)]; done)
              | (rw [if_neg (by omega)]; exact hq)
          · rw [darkM_s]
            first
              | (rw [if_pos (by omega)]; omega)
              | (rw [if_neg (by omega)]; exact ht)
        · refine G.iload X 48 dX4_darkestSince_46 rfl rfl ?_
          refine G.istore_n (ls' := [_, _, _, _, _, _]) X 49 dX4_darkestSince_48 rfl (by decide) rfl ?_
          refine G.iload X 51 dX4_darkestSince_49 rfl rfl ?_
          refine G.istore_n (ls' := [_, _, _, _, _, _]) X 52 dX4_darkestSince_51 rfl (by decide) rfl ?_
          refine G.iinc (ls' := [_, _, _, _, _, _]) X 55 dX4_darkestSince_52 rfl rfl (by decide) rfl ?_
          refine G.goto X 8 dX4_darkestSince_55 (by decide) ?_
          refine G.drop 5 ?_
          refine ih (i + 1) _ _ (by omega) ?_ ?_ (by omega)
          · rw [darkB_s]
            first
              | (rw [if_pos (by omega)]; done)
              | (rw [if_neg (by omega)]; exact hq)
          · rw [darkM_s]
            first
              | (rw [if_pos (by omega)]; omega)
              | (rw [if_neg (by omega)]; exact ht)
  refine G.bipush X 2 dX4_darkestSince_0 rfl (by decide) ?_
  refine G.istore_n (ls' := [_, _, _, _, _, _]) X 3 dX4_darkestSince_2 rfl (by decide) rfl ?_
  refine G.iconst X 4 dX4_darkestSince_3 rfl ?_
  refine G.istore_n (ls' := [_, _, _, _, _, _]) X 5 dX4_darkestSince_4 rfl (by decide) rfl ?_
  refine G.iconst X 6 dX4_darkestSince_5 rfl ?_
  refine G.istore (ls' := [_, _, _, _, _, _]) X 8 dX4_darkestSince_6 rfl (by decide) rfl ?_
  exact L8 (nC r0) 0 (-5) 0 (by omega) rfl rfl (by omega)
set_option maxHeartbeats 4000000 in
set_option maxRecDepth 100000 in
theorem c_X4_giverFor (l : Launch) (D : xD) (Bs sz : Nat) (kd : xKd) (rf : xRf) (M : xM) (b j : Nat) (r : xR) (hS : ShSt kd rf b) (hV : Vk r) (hM : St M b r) (hj : j < nC r) : CtI l D Bs yX4_giverFor cX4_giverFor 7 (some .int) 2 [.ref b, vi (j : Int)] sz kd rf M (fun q M' => q = partF r j (nC r) ∧ M' = M) := by
  refine Ctr.of (yv_X4_giverFor.1.2.2.2.2) (List.forall_mem_cons.mpr ⟨rfl, List.forall_mem_cons.mpr ⟨rfl, fun _ h => absurd h List.not_mem_nil⟩⟩) (Nat.le_of_ble_eq_true rfl) [some (.ref b), some (vi (j : Int)), none, none, none, none, none] rfl ?_
  intro p e s m args below meth c X hin
  obtain ⟨-, -, -, -, -, -, -, hb7, hb8⟩ := hM.1
  obtain ⟨n6, n6b⟩ := hV.n6
  obtain ⟨n7, n7b⟩ := hV.n7
  obtain ⟨-, cj1, -, -, -, -, -, -, -⟩ := hM.2.2 (j) hj
  obtain ⟨-, vj1, -, -, -, -, -⟩ := hV.2.2 (j) hj
  have L8 : ∀ (k : Nat) (i : Nat) (q t : Int), i + k = nC r → q = partF r j i → (q = -5 ∧ t = 0 ∨ q ≠ -5 ∧ t = fS r (hasN r q.toNat) 0 ∧ 1 ≤ t ∧ t ≤ 99) → G p l e (rmd 2) s m args below meth c D Bs 7 0 0 (MQ below (xQ D Bs (pI sz kd rf (fun q M' => q = partF r j (nC r) ∧ M' = M))) args s 0 0 (fun q => Bs ≤ q)) sz kd rf (M) 8 [some (.ref b), some (vi (j : Int)), some (vi q), some (vi t), some (vi (i : Int)), none, none] [] := by
    intro k
    induction k with
    | zero =>
      intro i q t hik hq ht
      refine G.iload X 10 dX4_giverFor_8 rfl rfl ?_
      refine G.aload_n X 11 dX4_giverFor_10 rfl rfl ?_
      refine G.getI X fl_X4_50 14 dX4_giverFor_11 rfl (hS).1 ((hS).2.1 8 (by decide)) ?_
      refine G.icmp_ge X 105 17 dX4_giverFor_14 (by decide) rfl (by omega) (by omega) (fun hc14 => ?_) (fun hc14 => ?_)
      · refine G.iload_n X 106 dX4_giverFor_105 rfl rfl ?_
        refine G.iret X dX4_giverFor_106 ⟨Nat.le_refl _, Nat.le_refl _⟩ ⟨rfl, rfl, rfl, _, rfl, ?_⟩
        exact ⟨by rw [hq, show nC r = i by omega], rfl⟩
      · exfalso; omega
    | succ k ih =>
      intro i q t hik hq ht
      obtain ⟨-, -, -, -, c4, -, -, -, -⟩ := hM.2.2 (i) (by omega)
      obtain ⟨-, -, -, -, w4, -, -⟩ := hV.2.2 (i) (by omega)
      have hpl := partF_lim r j i
      have hyl := yardF_lim r i (nS r)
      refine G.iload X 10 dX4_giverFor_8 rfl rfl ?_
      refine G.aload_n X 11 dX4_giverFor_10 rfl rfl ?_
      refine G.getI X fl_X4_50 14 dX4_giverFor_11 rfl (hS).1 ((hS).2.1 8 (by decide)) ?_
      refine G.icmp_ge X 105 17 dX4_giverFor_14 (by decide) rfl (by omega) (by omega) (fun hc14 => ?_) (fun hc14 => ?_)
      · exfalso; omega
      · refine G.aload_n X 18 dX4_giverFor_17 rfl rfl ?_
        refine G.aload_n X 19 dX4_giverFor_18 rfl rfl ?_
        refine G.getR X fl_X4_26 22 dX4_giverFor_19 rfl (hS).1 (hS).2.2.2.1 ?_
        refine G.iload X 24 dX4_giverFor_22 rfl rfl ?_
        refine G.aald X 25 dX4_giverFor_24 rfl (ShSt.kc hS) (by decide) (ShSt.rc hS (by omega)) rfl (by omega) (by decide) ?_
        refine G.vR1 (d := 1) X ml_X4_97 yv_X4_supplyOf 28 dX4_giverFor_25 rfl (c_X4_supplyOf l D Bs _ kd rf _ _ _ (hS) (ShSt.c hS (by omega)) (by omega) (by omega)) ⟨_, _, (hS).1, rfl, rfl⟩ (by decide) ⟨Nat.zero_le _, Nat.zero_le _⟩ (Nat.le_of_ble_eq_true rfl) (fun r25 M25 h25 => ?_)
        obtain ⟨hm25, hz25⟩ := h25
        obtain rfl := hm25.symm
        rcases hz25 with ⟨hn25, hz25⟩ | ⟨i25, hi25, hj25, hn25⟩
        · subst hn25
          refine G.astoreN (ls' := [_, _, _, _, _, _, _]) X 30 dX4_giverFor_28 rfl (by decide) rfl ?_
          refine G.aloadN X 32 dX4_giverFor_30 rfl rfl ?_
          refine G.ifnullN X 67 dX4_giverFor_32 (by decide) ?_
          refine G.iconst X 68 dX4_giverFor_67 rfl ?_
          refine G.istore (ls' := [_, _, _, _, _, _, _]) X 70 dX4_giverFor_68 rfl (by decide) rfl ?_
          refine G.iload X 72 dX4_giverFor_70 rfl rfl ?_
          refine G.if_eq X 99 75 dX4_giverFor_72 (by decide) rfl (by omega) (fun hc72 => ?_) (fun hc72 => ?_)
          · refine G.iinc (ls' := [_, _, _, _, _, _, _]) X 102 dX4_giverFor_99 rfl rfl (by decide) rfl ?_
            refine G.goto X 8 dX4_giverFor_102 (by decide) ?_
            refine G.drop 5 ?_
            refine G.drop 6 ?_
            refine ih (i + 1) _ _ (by omega) ?_ ?_
            · rw [partF_s, ← hq]
              first
                | (rw [if_pos (by omega)]; done)
                | (rw [if_neg (by omega)]; done)
            · first
                | exact ht
                | exact Or.inr ⟨by omega, by rw [g0]; rfl, by omega, by omega⟩
          · exact absurd hc72 (by decide)
        · subst hn25
          obtain ⟨hh25, hl25⟩ : hasN r i = i25 ∧ i25 < nS r := by
            unfold hasN
            omega
          subst hh25
          obtain ⟨g0, -, -, -, -, -, -, -, -⟩ := hM.2.1 (hasN r i) (by omega)
          obtain ⟨u0, -, -, -, -, -, -, -⟩ := hV.2.1 (hasN r i) (by omega)
          refine G.astore (ls' := [_, _, _, _, _, _, _]) X 30 dX4_giverFor_28 rfl (by decide) rfl ?_
          refine G.aload X 32 dX4_giverFor_30 rfl rfl ?_
          refine G.ifnull X 35 dX4_giverFor_32 rfl ?_
          refine G.aload X 37 dX4_giverFor_35 rfl rfl ?_
          refine G.getI X fl_X4_64 40 dX4_giverFor_37 rfl (ShSt.g (hS) (by omega)).1 ((ShSt.g (hS) (by omega)).2 0) ?_
          refine G.aload_n X 41 dX4_giverFor_40 rfl rfl ?_
          refine G.getR X fl_X4_26 44 dX4_giverFor_41 rfl (hS).1 (hS).2.2.2.1 ?_
          refine G.iload_n X 45 dX4_giverFor_44 rfl rfl ?_
          refine G.aald X 46 dX4_giverFor_45 rfl (ShSt.kc hS) (by decide) (ShSt.rc hS (by omega)) rfl (by omega) (by decide) ?_
          refine G.getI X fl_X4_104 49 dX4_giverFor_46 rfl (ShSt.c hS (by omega)).1 ((ShSt.c hS (by omega)).2 1) ?_
          refine G.icmp_lt X 67 52 dX4_giverFor_49 (by decide) rfl (by omega) (by omega) (fun hc49 => ?_) (fun hc49 => ?_)
          · refine G.iconst X 68 dX4_giverFor_67 rfl ?_
            refine G.istore (ls' := [_, _, _, _, _, _, _]) X 70 dX4_giverFor_68 rfl (by decide) rfl ?_
            refine G.iload X 72 dX4_giverFor_70 rfl rfl ?_
            refine G.if_eq X 99 75 dX4_giverFor_72 (by decide) rfl (by omega) (fun hc72 => ?_) (fun hc72 => ?_)
            · refine G.iinc (ls' := [_, _, _, _, _, _, _]) X 102 dX4_giverFor_99 rfl rfl (by decide) rfl ?_
              refine G.goto X 8 dX4_giverFor_102 (by decide) ?_
              refine G.drop 5 ?_
              refine G.drop 6 ?_
              refine ih (i + 1) _ _ (by omega) ?_ ?_
              · rw [partF_s, ← hq]
                first
                  | (rw [if_pos (by omega)]; done)
                  | (rw [if_neg (by omega)]; done)
              · first
                  | exact ht
                  | exact Or.inr ⟨by omega, by rw [g0]; rfl, by omega, by omega⟩
            · exact absurd hc72 (by decide)
          · refine G.aload_n X 53 dX4_giverFor_52 rfl rfl ?_
            refine G.iload X 55 dX4_giverFor_53 rfl rfl ?_
            refine G.vI1 (d := 0) X ml_X4_107 yv_X4_leastInYard 58 dX4_giverFor_55 rfl (c_X4_leastInYard l D Bs _ kd rf _ _ _ _ (hS) hV hM (by omega)) ⟨_, _, (hS).1, rfl, rfl⟩ (by decide) ⟨Nat.zero_le _, Nat.zero_le _⟩ (Nat.le_of_ble_eq_true rfl) (fun r55 M55 h55 => ?_)
            obtain ⟨hr55, hm55⟩ := h55
            subst hr55
            obtain rfl := hm55.symm
            refine G.bipush X 60 dX4_giverFor_58 rfl (by decide) ?_
            refine G.icmp_eq X 67 63 dX4_giverFor_60 (by decide) rfl (by omega) (by omega) (fun hc60 => ?_) (fun hc60 => ?_)
            · refine G.iconst X 68 dX4_giverFor_67 rfl ?_
              refine G.istore (ls' := [_, _, _, _, _, _, _]) X 70 dX4_giverFor_68 rfl (by decide) rfl ?_
              refine G.iload X 72 dX4_giverFor_70 rfl rfl ?_
              refine G.if_eq X 99 75 dX4_giverFor_72 (by decide) rfl (by omega) (fun hc72 => ?_) (fun hc72 => ?_)
              · refine G.iinc (ls' := [_, _, _, _, _, _, _]) X 102 dX4_giverFor_99 rfl rfl (by decide) rfl ?_
                refine G.goto X 8 dX4_giverFor_102 (by decide) ?_
                refine G.drop 5 ?_
                refine G.drop 6 ?_
                refine ih (i + 1) _ _ (by omega) ?_ ?_
                · rw [partF_s, ← hq]
                  first
                    | (rw [if_pos (by omega)]; done)
                    | (rw [if_neg (by omega)]; done)
                · first
                    | exact ht
                    | exact Or.inr ⟨by omega, by rw [g0]; rfl, by omega, by omega⟩
              · exact absurd hc72 (by decide)
            · refine G.iconst X 64 dX4_giverFor_63 rfl ?_
              refine G.goto X 68 dX4_giverFor_64 (by decide) ?_
              refine G.istore (ls' := [_, _, _, _, _, _, _]) X 70 dX4_giverFor_68 rfl (by decide) rfl ?_
              refine G.iload X 72 dX4_giverFor_70 rfl rfl ?_
              refine G.if_eq X 99 75 dX4_giverFor_72 (by decide) rfl (by omega) (fun hc72 => ?_) (fun hc72 => ?_)
              · exact absurd hc72 (by decide)
              · refine G.iload_n X 76 dX4_giverFor_75 rfl rfl ?_
                refine G.bipush X 78 dX4_giverFor_76 rfl (by decide) ?_
                refine G.icmp_eq X 90 81 dX4_giverFor_78 (by decide) rfl (by omega) (by omega) (fun hc78 => ?_) (fun hc78 => ?_)
                · refine G.iload X 92 dX4_giverFor_90 rfl rfl ?_
                  refine G.istore_n (ls' := [_, _, _, _, _, _, _]) X 93 dX4_giverFor_92 rfl (by decide) rfl ?_
                  refine G.aload X 95 dX4_giverFor_93 rfl rfl ?_
                  refine G.getI X fl_X4_64 98 dX4_giverFor_95 rfl (ShSt.g (hS) (by omega)).1 ((ShSt.g (hS) (by omega)).2 0) ?_
                  refine G.istore_n (ls' := [_, _, _, _, _, _, _]) X 99 dX4_giverFor_98 rfl (by decide) rfl ?_
                  refine G.iinc (ls' := [_, _, _, _, _, _, _]) X 102 dX4_giverFor_99 rfl rfl (by decide) rfl ?_
                  refine G.goto X 8 dX4_giverFor_102 (by decide) ?_
                  refine G.drop 5 ?_
                  refine G.drop 6 ?_
                  refine ih (i + 1) _ _ (by omega) ?_ ?_
                  · rw [partF_s, ← hq]
                    first
                      | (rw [if_pos (by omega)]; done)
                      | (rw [if_neg (by omega)]; done)
                  · first
                      | exact ht
                      | exact Or.inr ⟨by omega, by rw [g0]; rfl, by omega, by omega⟩
                · refine G.aload X 83 dX4_giverFor_81 rfl rfl ?_
                  refine G.getI X fl_X4_64 86 dX4_giverFor_83 rfl (ShSt.g (hS) (by omega)).1 ((ShSt.g (hS) (by omega)).2 0) ?_
                  refine G.iload_n X 87 dX4_giverFor_86 rfl rfl ?_
                  refine G.icmp_ge X 99 90 dX4_giverFor_87 (by decide) rfl (by omega) (by omega) (fun hc87 => ?_) (fun hc87 => ?_)
                  · refine G.iinc (ls' := [_, _, _, _, _, _, _]) X 102 dX4_giverFor_99 rfl rfl (by decide) rfl ?_
                    refine G.goto X 8 dX4_giverFor_102 (by decide) ?_
                    refine G.drop 5 ?_
                    refine G.drop 6 ?_
                    refine ih (i + 1) _ _ (by omega) ?_ ?_
                    · rw [partF_s, ← hq]
                      first
                        | (rw [if_pos (by omega)]; done)
                        | (rw [if_neg (by omega)]; done)
                    · first
                        | exact ht
                        | exact Or.inr ⟨by omega, by rw [g0]; rfl, by omega, by omega⟩
                  · refine G.iload X 92 dX4_giverFor_90 rfl rfl ?_
                    refine G.istore_n (ls' := [_, _, _, _, _, _, _]) X 93 dX4_giverFor_92 rfl (by decide) rfl ?_
                    refine G.aload X 95 dX4_giverFor_93 rfl rfl ?_
                    refine G.getI X fl_X4_64 98 dX4_giverFor_95 rfl (ShSt.g (hS) (by omega)).1 ((ShSt.g (hS) (by omega)).2 0) ?_
                    refine G.istore_n (ls' := [_, _, _, _, _, _, _]) X 99 dX4_giverFor_98 rfl (by decide) rfl ?_
                    refine G.iinc (ls' := [_, _, _, _, _, _, _]) X 102 dX4_giverFor_99 rfl rfl (by decide) rfl ?_
                    refine G.goto X 8 dX4_giverFor_102 (by decide) ?_
                    refine G.drop 5 ?_
                    refine G.drop 6 ?_
                    refine ih (i + 1) _ _ (by omega) ?_ ?_
                    · rw [partF_s, ← hq]
                      first
                        | (rw [if_pos (by omega)]; done)
                        | (rw [if_neg (by omega)]; done)
                    · first
                        | exact ht
                        | exact Or.inr ⟨by omega, by rw [g0]; rfl, by omega, by omega⟩
  refine G.bipush X 2 dX4_giverFor_0 rfl (by decide) ?_
  refine G.istore_n (ls' := [_, _, _, _, _, _, _]) X 3 dX4_giverFor_2 rfl (by decide) rfl ?_
  refine G.iconst X 4 dX4_giverFor_3 rfl ?_
  refine G.istore_n (ls' := [_, _, _, _, _, _, _]) X 5 dX4_giverFor_4 rfl (by decide) rfl ?_
  refine G.iconst X 6 dX4_giverFor_5 rfl ?_
  refine G.istore (ls' := [_, _, _, _, _, _, _]) X 8 dX4_giverFor_6 rfl (by decide) rfl ?_
  exact L8 (nC r) 0 (-5) 0 (by omega) rfl (by omega)
end
section
/-! lists by a key -/
def SortK (key : Nat → Int) (L : List Nat) : Prop := L.Pairwise (fun a b => key b ≤ key a)
theorem insK_mem {key : Nat → Int} {x y : Nat} : ∀ {L : List Nat}, y ∈ insK key x L ↔ y = x ∨ y ∈ L
  | [] => by simp [insK]
  | z :: t => by
    unfold insK
    split
    · simp
    · simp only [List.mem_cons, insK_mem (L := t)]
      constructor
      · rintro (h | h | h)
        · exact Or.inr (Or.inl h)
        · exact Or.inl h
        · exact Or.inr (Or.inr h)
      · rintro (h | h | h)
        · exact Or.inr (Or.inl h)
        · exact Or.inl h
        · exact Or.inr (Or.inr h)
theorem insK_len {key : Nat → Int} {x : Nat} : ∀ {L : List Nat}, (insK key x L).length = L.length + 1
  | [] => rfl
  | z :: t => by
    unfold insK
    split
    · rfl
    · simp only [List.length_cons, insK_len (L := t)]
theorem insK_sort {key : Nat → Int} {x : Nat} : ∀ {L : List Nat}, SortK key L → SortK key (insK key x L)
  | [], _ => by simp [insK, SortK]
  | z :: t, h => by
    unfold SortK at h
    rw [List.pairwise_cons] at h
    unfold insK
    split
    · rename_i hz
      unfold SortK
      rw [List.pairwise_cons, List.pairwise_cons]
      refine ⟨fun a ha => ?_, h⟩
      rcases List.mem_cons.mp ha with e | ha
      · rw [e]; omega
      · have := h.1 a ha
        omega
    · rename_i hz
      unfold SortK
      rw [List.pairwise_cons]
      refine ⟨fun a ha => ?_, insK_sort (L := t) h.2⟩
      rcases insK_mem.mp ha with e | ha
      · rw [e]; omega
      · exact h.1 a ha
theorem sortK_s (key : Nat → Int) (P : Nat → Bool) (n : Nat) : sortK key P (n + 1) = if P n then insK key n (sortK key P n) else sortK key P n := rfl
theorem sortK_sort (key : Nat → Int) (P : Nat → Bool) : ∀ n, SortK key (sortK key P n)
  | 0 => List.Pairwise.nil
  | n + 1 => by
    rw [sortK_s]
    split
    · exact insK_sort (sortK_sort key P n)
    · exact sortK_sort key P n
theorem sortK_mem {key : Nat → Int} {P : Nat → Bool} {x : Nat} : ∀ {n : Nat}, x ∈ sortK key P n ↔ x < n ∧ P x = true
  | 0 => by simp [sortK]
  | n + 1 => by
    rw [sortK_s]
    by_cases h : P n = true
    · rw [if_pos h, insK_mem, sortK_mem (n := n)]
      constructor
      · rintro (e | e)
        · subst e; exact ⟨by omega, h⟩
        · exact ⟨by omega, e.2⟩
      · intro e
        by_cases hx : x = n
        · exact Or.inl hx
        · exact Or.inr ⟨by omega, e.2⟩
    · rw [if_neg h, sortK_mem (n := n)]
      constructor
      · intro e; exact ⟨by omega, e.2⟩
      · intro e
        refine ⟨?_, e.2⟩
        by_cases hx : x = n
        · subst hx; exact absurd e.2 h
        · omega
theorem sortK_len (key : Nat → Int) (P : Nat → Bool) : ∀ n, (sortK key P n).length = cntN P n
  | 0 => rfl
  | n + 1 => by
    rw [sortK_s, cntN_s]
    split
    · rw [insK_len, sortK_len key P n]
    · rw [sortK_len key P n]; rfl
theorem insK_split {key : Nat → Int} {x : Nat} : ∀ (L : List Nat) (p : Nat), p ≤ L.length → (∀ j, j < p → ¬ key (L.getD j 0) < key x) → (p < L.length → key (L.getD p 0) < key x) → insK key x L = L.take p ++ x :: L.drop p
  | [], p, h, _, _ => by
    have : p = 0 := by simpa using h
    subst this
    rfl
  | y :: t, 0, _, _, h2 => by
    have hy : key y < key x := by simpa using h2 (by simp)
    unfold insK
    rw [if_pos hy]
    rfl
  | y :: t, p + 1, h, h1, h2 => by
    have hy : ¬ key y < key x := by simpa using h1 0 (by omega)
    unfold insK
    rw [if_neg hy, insK_split t p (by simpa using h) (fun j hj => by simpa using h1 (j + 1) (by omega)) (fun hp => by simpa using h2 (by simpa using hp))]
    rfl
theorem insAt_getD {L : List Nat} {p x j : Nat} (hp : p ≤ L.length) : (L.take p ++ x :: L.drop p).getD j 0 = if j < p then L.getD j 0 else if j = p then x else L.getD (j - 1) 0 := by
  have hl : (L.take p).length = p := by simp [hp]
  simp only [List.getD_eq_getElem?_getD]
  by_cases h1 : j < p
  · rw [if_pos h1, List.getElem?_append_left (by omega), List.getElem?_take, if_pos h1]
  · rw [if_neg h1, List.getElem?_append_right (by omega), hl]
    by_cases h2 : j = p
    · subst h2
      simp
    · rw [if_neg h2]
      obtain ⟨q, hq⟩ : ∃ q, j - p = q + 1 := ⟨j - p - 1, by omega⟩
      rw [hq, List.getElem?_cons_succ, List.getElem?_drop]
      rw [show p + q = j - 1 by omega]
/-- how many of the first n are ahead of s -/
def rankN (key : Nat → Int) (P : Nat → Bool) (n s : Nat) : Nat := cntN (fun k => P k && decide (key s < key k ∨ key k = key s ∧ k < s)) n
theorem insK_count {key : Nat → Int} {x : Nat} {q : Nat → Bool} : ∀ {L : List Nat}, (insK key x L).countP q = L.countP q + (if q x then 1 else 0)
  | [] => by
    unfold insK
    rw [List.countP_cons]
  | z :: t => by
    unfold insK
    split
    · rw [List.countP_cons]
    · rw [List.countP_cons, insK_count (L := t), List.countP_cons]
      omega
theorem sortK_count (key : Nat → Int) (P q : Nat → Bool) : ∀ n, (sortK key P n).countP q = cntN (fun k => P k && q k) n
  | 0 => rfl
  | n + 1 => by
    rw [sortK_s, cntN_s]
    cases h : P n with
    | true => 
      rw [if_pos rfl, insK_count, sortK_count key P q n]
      simp
    | false =>
      rw [if_neg (by decide), sortK_count key P q n]
      simp
theorem insK_at {key : Nat → Int} {x : Nat} : ∀ {L : List Nat}, SortK key L → (insK key x L)[L.countP (fun y => !decide (key y < key x))]? = some x
  | [], _ => rfl
  | z :: t, h => by
    unfold SortK at h
    rw [List.pairwise_cons] at h
    unfold insK
    by_cases hz : key z < key x
    · rw [if_pos hz]
      have h0 : (z :: t).countP (fun y => !decide (key y < key x)) = 0 := by
        rw [List.countP_eq_zero]
        intro a ha
        rcases List.mem_cons.mp ha with e | ha
        · rw [e]; simp [hz]
        · have := h.1 a ha
          have h3 : key a < key x := by omega
          simp [h3]
      rw [h0]
      rfl
    · rw [if_neg hz, List.countP_cons]
      simp only [hz, decide_false, Bool.not_false, if_true]
      rw [List.getElem?_cons_succ]
      exact insK_at (L := t) h.2
theorem insK_old {key : Nat → Int} {x y : Nat} : ∀ {L : List Nat} {q : Nat}, SortK key L → L[q]? = some y → (insK key x L)[if key y < key x then q + 1 else q]? = some y
  | [], q, _, hq => by simp at hq
  | z :: t, q, h, hq => by
    unfold SortK at h
    rw [List.pairwise_cons] at h
    unfold insK
    by_cases hz : key z < key x
    · rw [if_pos hz]
      have hy : key y < key x := by
        rcases List.mem_cons.mp (List.mem_of_getElem? hq) with e | hm
        · rw [e]; exact hz
        · have := h.1 y hm
          omega
      rw [if_pos hy, List.getElem?_cons_succ]
      exact hq
    · rw [if_neg hz]
      cases q with
      | zero =>
        rw [List.getElem?_cons_zero] at hq
        cases hq
        rw [if_neg hz]
        rfl
      | succ q =>
        rw [List.getElem?_cons_succ] at hq
        have ih := insK_old (key := key) (x := x) (L := t) (q := q) h.2 hq
        by_cases hy : key y < key x
        · rw [if_pos hy] at ih ⊢
          rw [List.getElem?_cons_succ]
          exact ih
        · rw [if_neg hy] at ih ⊢
          rw [List.getElem?_cons_succ]
          exact ih
theorem sortK_rank (key : Nat → Int) (P : Nat → Bool) : ∀ (n s : Nat), s < n → P s = true → (sortK key P n)[rankN key P n s]? = some s
  | 0, s, h, _ => by omega
  | n + 1, s, h, hP => by
    rw [sortK_s]
    unfold rankN
    rw [cntN_s]
    by_cases hs : s = n
    · subst hs
      rw [if_pos hP]
      have h0 : (P s && decide (key s < key s ∨ key s = key s ∧ s < s)) = false := by simp
      rw [h0]
      have hc : cntN (fun k => P k && decide (key s < key k ∨ key k = key s ∧ k < s)) s = (sortK key P s).countP (fun y => !decide (key y < key s)) := by
        rw [sortK_count]
        have : ∀ m, m ≤ s → cntN (fun k => P k && decide (key s < key k ∨ key k = key s ∧ k < s)) m = cntN (fun k => P k && !decide (key k < key s)) m := by
          intro m
          induction m with
          | zero => intro _; rfl
          | succ m ih =>
            intro hm
            rw [cntN_s, cntN_s, ih (by omega)]
            congr 2
            have e : decide (key s < key m ∨ key m = key s ∧ m < s) = !decide (key m < key s) := by
              by_cases hk : key m < key s
              · simp only [hk, decide_true, Bool.not_true, decide_eq_false_iff_not]
                omega
              · simp only [hk, decide_false, Bool.not_false, decide_eq_true_eq]
                omega
            rw [e]
        exact this s (Nat.le_refl s)
      rw [hc]
      exact insK_at (sortK_sort key P s)
    · have hlt : s < n := by omega
      have ih := sortK_rank key P n s hlt hP
      unfold rankN at ih
      by_cases hn : P n = true
      · rw [if_pos hn]
        have io := insK_old (x := n) (sortK_sort key P n) ih
        have e : (P n && decide (key s < key n ∨ key n = key s ∧ n < s)) = decide (key s < key n) := by
          rw [hn, Bool.true_and]
          by_cases hk : key s < key n
          · simp only [hk, true_or, decide_true]
          · simp only [hk, false_or, decide_false, decide_eq_false_iff_not]
            omega
        rw [e]
        by_cases hk : key s < key n
        · rw [if_pos hk] at io
          simpa [hk] using io
        · rw [if_neg hk] at io
          simpa [hk] using io
      · rw [if_neg hn]
        have e : P n = false := by simpa using hn
        rw [e]
        simpa using ih
end
section
theorem Vb.come {r : xR} {w d : Int} {u j : Nat} (h : Vb r w d) (hw : 0 ≤ w) (hu : u < nS r) (hj : j < nC r) : Vb (comeR r u j) w d := by
  obtain ⟨n6, n6b⟩ := h.n6
  obtain ⟨n7, n7b⟩ := h.n7
  have e0 : ∀ k, k < 16 → comeR r u j k = r k := fun k hk => comeR_0 hk
  have eS : nS (comeR r u j) = nS r := nS_of (e0 6 (by decide))
  have eC : nC (comeR r u j) = nC r := nC_of (e0 7 (by decide))
  refine ⟨?_, fun i hi => ?_, fun i hi => ?_⟩
  · rw [e0 0 (by decide), e0 1 (by decide), e0 2 (by decide), e0 3 (by decide), e0 6 (by decide), e0 7 (by decide)]
    exact h.1
  · rw [eS] at hi
    have g := h.2.1 i hi
    have e : ∀ k, k < 10 → fS (comeR r u j) i k = if i = u ∧ k = 5 then (j : Int) + 1 else if i = u ∧ (k = 6 ∨ k = 7) then 0 else fS r i k := fun k hk => comeR_S (by omega) hk
    unfold Vset at g ⊢
    rw [e 0 (by decide), e 1 (by decide), e 2 (by decide), e 3 (by decide), e 4 (by decide), e 5 (by decide), e 6 (by decide), e 7 (by decide), e0 7 (by decide)]
    by_cases hiu : i = u
    · simp [hiu] at g ⊢
      omega
    · simp [hiu]
      omega
  · rw [eC] at hi
    have g := h.2.2 i hi
    have e : ∀ k, k < 10 → fC (comeR r u j) i k = if i = j ∧ k = 4 then (u : Int) + 1 else fC r i k := fun k hk => comeR_C (by omega) hk
    unfold Vsite at g ⊢
    rw [e 0 (by decide), e 1 (by decide), e 2 (by decide), e 3 (by decide), e 4 (by decide), e 6 (by decide), e 8 (by decide), e0 6 (by decide)]
    by_cases hij : i = j
    · simp [hij] at g ⊢
      omega
    · simp [hij]
      omega
/-- a swap: g's set goes to j, a set of the yard to g -/
def swapR (r : xR) (j g : Nat) : xR := comeR (comeR r (yardF r g (nS r)).toNat g) (hasN r g) j
/-- a new set, a new site -/
def addSetR (r : xR) (x0 x1 x2 x3 : Int) : xR := fun x => if x = 6 then r 6 + 1 else if x = 16 + 10 * nS r then x0 else if x = 16 + 10 * nS r + 1 then x1 else if x = 16 + 10 * nS r + 2 then x2 else if x = 16 + 10 * nS r + 3 then x3 else if 16 + 10 * nS r + 4 ≤ x ∧ x ≤ 16 + 10 * nS r + 8 then 0 else r x
def addSiteR (r : xR) (x0 x1 x2 x3 : Int) : xR := fun x => if x = 7 then r 7 + 1 else if x = 116 + 10 * nC r then x0 else if x = 116 + 10 * nC r + 1 then x1 else if x = 116 + 10 * nC r + 2 then x2 else if x = 116 + 10 * nC r + 3 then x3 else if 116 + 10 * nC r + 4 ≤ x ∧ x ≤ 116 + 10 * nC r + 8 then 0 else r x
theorem addSetR_0 {r : xR} {x0 x1 x2 x3 : Int} {k : Nat} (hk : k < 16) (h6 : k ≠ 6) : addSetR r x0 x1 x2 x3 k = r k := by
  unfold addSetR
  rw [if_neg h6, if_neg (by omega), if_neg (by omega), if_neg (by omega), if_neg (by omega), if_neg (by omega)]
theorem addSetR_C {r : xR} {x0 x1 x2 x3 : Int} {i k : Nat} (hn : nS r < 10) : fC (addSetR r x0 x1 x2 x3) i k = fC r i k := by
  unfold fC addSetR
  rw [if_neg (by omega), if_neg (by omega), if_neg (by omega), if_neg (by omega), if_neg (by omega), if_neg (by omega)]
theorem addSetR_S {r : xR} {x0 x1 x2 x3 : Int} {i k : Nat} (hi : i < nS r) (hk : k < 10) : fS (addSetR r x0 x1 x2 x3) i k = fS r i k := by
  unfold fS addSetR
  rw [if_neg (by omega), if_neg (by omega), if_neg (by omega), if_neg (by omega), if_neg (by omega), if_neg (by omega)]
theorem addSetR_N (r : xR) (x0 x1 x2 x3 : Int) : fS (addSetR r x0 x1 x2 x3) (nS r) 0 = x0 ∧ fS (addSetR r x0 x1 x2 x3) (nS r) 1 = x1 ∧ fS (addSetR r x0 x1 x2 x3) (nS r) 2 = x2 ∧ fS (addSetR r x0 x1 x2 x3) (nS r) 3 = x3 ∧ fS (addSetR r x0 x1 x2 x3) (nS r) 4 = 0 ∧ fS (addSetR r x0 x1 x2 x3) (nS r) 5 = 0 ∧ fS (addSetR r x0 x1 x2 x3) (nS r) 6 = 0 ∧ fS (addSetR r x0 x1 x2 x3) (nS r) 7 = 0 ∧ fS (addSetR r x0 x1 x2 x3) (nS r) 8 = 0 := by
  unfold fS addSetR
  refine ⟨?_, ?_, ?_, ?_, ?_, ?_, ?_, ?_, ?_⟩ <;> (repeat' split) <;> first | rfl | (exfalso; omega)
theorem addSetR_n {r : xR} {x0 x1 x2 x3 : Int} (h : r 6 = (nS r : Int)) : nS (addSetR r x0 x1 x2 x3) = nS r + 1 ∧ nC (addSetR r x0 x1 x2 x3) = nC r ∧ addSetR r x0 x1 x2 x3 6 = r 6 + 1 := by
  have e : addSetR r x0 x1 x2 x3 6 = r 6 + 1 := by
    unfold addSetR
    rw [if_pos rfl]
  refine ⟨?_, nC_of (addSetR_0 (by decide) (by decide)), e⟩
  unfold nS at h ⊢
  rw [e]
  omega
theorem addSiteR_0 {r : xR} {x0 x1 x2 x3 : Int} {k : Nat} (hk : k < 16) (h7 : k ≠ 7) : addSiteR r x0 x1 x2 x3 k = r k := by
  unfold addSiteR
  rw [if_neg h7, if_neg (by omega), if_neg (by omega), if_neg (by omega), if_neg (by omega), if_neg (by omega)]
theorem addSiteR_S {r : xR} {x0 x1 x2 x3 : Int} {i k : Nat} (hi : i < 10) (hk : k < 10) : fS (addSiteR r x0 x1 x2 x3) i k = fS r i k := by
  unfold fS addSiteR
  rw [if_neg (by omega), if_neg (by omega), if_neg (by omega), if_neg (by omega), if_neg (by omega), if_neg (by omega)]
theorem addSiteR_C {r : xR} {x0 x1 x2 x3 : Int} {i k : Nat} (hi : i < nC r) (hk : k < 10) : fC (addSiteR r x0 x1 x2 x3) i k = fC r i k := by
  unfold fC addSiteR
  rw [if_neg (by omega), if_neg (by omega), if_neg (by omega), if_neg (by omega), if_neg (by omega), if_neg (by omega)]
theorem addSiteR_N (r : xR) (x0 x1 x2 x3 : Int) : fC (addSiteR r x0 x1 x2 x3) (nC r) 0 = x0 ∧ fC (addSiteR r x0 x1 x2 x3) (nC r) 1 = x1 ∧ fC (addSiteR r x0 x1 x2 x3) (nC r) 2 = x2 ∧ fC (addSiteR r x0 x1 x2 x3) (nC r) 3 = x3 ∧ fC (addSiteR r x0 x1 x2 x3) (nC r) 4 = 0 ∧ fC (addSiteR r x0 x1 x2 x3) (nC r) 5 = 0 ∧ fC (addSiteR r x0 x1 x2 x3) (nC r) 6 = 0 ∧ fC (addSiteR r x0 x1 x2 x3) (nC r) 7 = 0 ∧ fC (addSiteR r x0 x1 x2 x3) (nC r) 8 = 0 := by
  unfold fC addSiteR
  refine ⟨?_, ?_, ?_, ?_, ?_, ?_, ?_, ?_, ?_⟩ <;> (repeat' split) <;> first | rfl | (exfalso; omega)
theorem addSiteR_n {r : xR} {x0 x1 x2 x3 : Int} (h : r 7 = (nC r : Int)) : nC (addSiteR r x0 x1 x2 x3) = nC r + 1 ∧ nS (addSiteR r x0 x1 x2 x3) = nS r ∧ addSiteR r x0 x1 x2 x3 7 = r 7 + 1 := by
  have e : addSiteR r x0 x1 x2 x3 7 = r 7 + 1 := by
    unfold addSiteR
    rw [if_pos rfl]
  refine ⟨?_, nS_of (addSiteR_0 (by decide) (by decide)), e⟩
  unfold nC at h ⊢
  rw [e]
  omega
theorem St.addSet {M M' : xM} {b : Nat} {r : xR} {x0 x1 x2 x3 : Int} (h : St M b r) (h6 : r 6 = (nS r : Int)) (hn : nS r < 10) (hc : nC r ≤ 12) (e7 : M' b 7 = r 6 + 1) (eb : ∀ k, k < 9 → k ≠ 7 → M' b k = M b k) (e0 : M' (b + 3 + nS r) 0 = x0) (e1 : M' (b + 3 + nS r) 1 = x1) (e2 : M' (b + 3 + nS r) 2 = x2) (e3 : M' (b + 3 + nS r) 3 = x3) (e4 : M' (b + 3 + nS r) 4 = 0) (e5 : M' (b + 3 + nS r) 5 = -5) (e6 : M' (b + 3 + nS r) 6 = 0) (ew : M' (b + 3 + nS r) 7 = 0) (e8 : M' (b + 3 + nS r) 8 = 0) (eo : ∀ a, a ≠ b → a ≠ b + 3 + nS r → M' a = M a) : St M' b (addSetR r x0 x1 x2 x3) := by
  obtain ⟨n1, n2, n3⟩ := addSetR_n (x0 := x0) (x1 := x1) (x2 := x2) (x3 := x3) h6
  refine ⟨?_, fun i hi => ?_, fun i hi => ?_⟩
  · have g := h.1
    rw [eb 0 (by decide) (by decide), eb 1 (by decide) (by decide), eb 2 (by decide) (by decide), eb 3 (by decide) (by decide), eb 4 (by decide) (by decide), eb 5 (by decide) (by decide), eb 6 (by decide) (by decide), e7, eb 8 (by decide) (by decide), n3, addSetR_0 (by decide) (by decide), addSetR_0 (by decide) (by decide), addSetR_0 (by decide) (by decide), addSetR_0 (by decide) (by decide), addSetR_0 (by decide) (by decide), addSetR_0 (by decide) (by decide), addSetR_0 (by decide) (by decide), addSetR_0 (by decide) (by decide)]
    omega
  · rw [n1] at hi
    by_cases e : i = nS r
    · subst e
      obtain ⟨g0, g1, g2, g3, g4, g5, g6, g7, g8⟩ := addSetR_N r x0 x1 x2 x3
      unfold Gen
      rw [e0, e1, e2, e3, e4, e5, e6, ew, e8, g0, g1, g2, g3, g4, g5, g6, g7, g8]
      omega
    · have g := h.2.1 i (by omega)
      have f : ∀ k, k < 10 → fS (addSetR r x0 x1 x2 x3) i k = fS r i k := fun k hk => addSetR_S (by omega) hk
      unfold Gen at g ⊢
      rw [eo _ (by omega) (by omega), f 0 (by decide), f 1 (by decide), f 2 (by decide), f 3 (by decide), f 4 (by decide), f 5 (by decide), f 6 (by decide), f 7 (by decide), f 8 (by decide)]
      exact g
  · rw [n2] at hi
    have g := h.2.2 i hi
    unfold Cus at g ⊢
    rw [eo _ (by omega) (by omega)]
    simp only [addSetR_C hn]
    exact g
theorem St.addSite {M M' : xM} {b : Nat} {r : xR} {x0 x1 x2 x3 : Int} (h : St M b r) (h7 : r 7 = (nC r : Int)) (hn : nS r ≤ 10) (hc : nC r < 12) (e7 : M' b 8 = r 7 + 1) (eb : ∀ k, k < 9 → k ≠ 8 → M' b k = M b k) (en : M' (b + 13 + nC r) 0 = x0 ∧ M' (b + 13 + nC r) 1 = x1 ∧ M' (b + 13 + nC r) 2 = x2 ∧ M' (b + 13 + nC r) 3 = x3 ∧ M' (b + 13 + nC r) 4 = -5 ∧ M' (b + 13 + nC r) 5 = 0 ∧ M' (b + 13 + nC r) 6 = 0 ∧ M' (b + 13 + nC r) 7 = 0 ∧ M' (b + 13 + nC r) 8 = -5) (eo : ∀ a, a ≠ b → a ≠ b + 13 + nC r → M' a = M a) : St M' b (addSiteR r x0 x1 x2 x3) := by
  obtain ⟨n1, n2, n3⟩ := addSiteR_n (x0 := x0) (x1 := x1) (x2 := x2) (x3 := x3) h7
  refine ⟨?_, fun i hi => ?_, fun i hi => ?_⟩
  · have g := h.1
    rw [eb 0 (by decide) (by decide), eb 1 (by decide) (by decide), eb 2 (by decide) (by decide), eb 3 (by decide) (by decide), eb 4 (by decide) (by decide), eb 5 (by decide) (by decide), eb 6 (by decide) (by decide), eb 7 (by decide) (by decide), e7, n3, addSiteR_0 (by decide) (by decide), addSiteR_0 (by decide) (by decide), addSiteR_0 (by decide) (by decide), addSiteR_0 (by decide) (by decide), addSiteR_0 (by decide) (by decide), addSiteR_0 (by decide) (by decide), addSiteR_0 (by decide) (by decide), addSiteR_0 (by decide) (by decide)]
    omega
  · rw [n2] at hi
    have g := h.2.1 i hi
    have f : ∀ k, k < 10 → fS (addSiteR r x0 x1 x2 x3) i k = fS r i k := fun k hk => addSiteR_S (by omega) hk
    unfold Gen at g ⊢
    rw [eo _ (by omega) (by omega), f 0 (by decide), f 1 (by decide), f 2 (by decide), f 3 (by decide), f 4 (by decide), f 5 (by decide), f 6 (by decide), f 7 (by decide), f 8 (by decide)]
    exact g
  · rw [n1] at hi
    by_cases e : i = nC r
    · subst e
      obtain ⟨e0, e1, e2, e3, e4, e5, e6, ew, e8⟩ := en
      obtain ⟨g0, g1, g2, g3, g4, g5, g6, g7, g8⟩ := addSiteR_N r x0 x1 x2 x3
      unfold Cus
      rw [e0, e1, e2, e3, e4, e5, e6, ew, e8, g0, g1, g2, g3, g4, g5, g6, g7, g8]
      omega
    · have g := h.2.2 i (by omega)
      have f : ∀ k, k < 10 → fC (addSiteR r x0 x1 x2 x3) i k = fC r i k := fun k hk => addSiteR_C (by omega) hk
      unfold Cus at g ⊢
      rw [eo _ (by omega) (by omega), f 0 (by decide), f 1 (by decide), f 2 (by decide), f 3 (by decide), f 4 (by decide), f 5 (by decide), f 6 (by decide), f 7 (by decide), f 8 (by decide)]
      exact g
set_option maxHeartbeats 4000000 in
set_option maxRecDepth 100000 in
theorem c_X4_exchange (l : Launch) (D : xD) (Bs sz : Nat) (kd : xKd) (rf : xRf) (M : xM) (b j g : Nat) (r : xR) (hS : ShSt kd rf b) (hV : Vk r) (hM : St M b r) (hj : j < nC r) (hg : g < nC r) (h4 : 0 < fC r g 4) (hy : yardF r g (nS r) ≠ -5) : CtV l D Bs yX4_exchange cX4_exchange 5 none 2 [.ref b, vi (j : Int), vi (g : Int)] sz kd rf M (fun M' => St M' b (swapR r j g) ∧ Off M M' b 25) := by
  refine Ctr.of (yv_X4_exchange.1.2.2.2.2) (List.forall_mem_cons.mpr ⟨rfl, List.forall_mem_cons.mpr ⟨rfl, List.forall_mem_cons.mpr ⟨rfl, fun _ h => absurd h List.not_mem_nil⟩⟩⟩) (Nat.le_of_ble_eq_true rfl) [some (.ref b), some (vi (j : Int)), some (vi (g : Int)), none, none] rfl ?_
  intro p e s m args below meth c X hin
  obtain ⟨-, -, -, -, -, -, -, hb7, hb8⟩ := hM.1
  obtain ⟨n6, n6b⟩ := hV.n6
  obtain ⟨n7, n7b⟩ := hV.n7
  obtain ⟨-, -, -, -, c4, -, -, -, -⟩ := hM.2.2 (g) hg
  obtain ⟨-, -, -, -, w4, -, -⟩ := hV.2.2 (g) hg
  obtain ⟨u, hu, huS, -, -⟩ := yardF_get hy
  obtain ⟨hh, hhi⟩ := hasN_lt hV hg h4
  refine G.aload_n X 1 dX4_exchange_0 rfl rfl ?_
  refine G.getR X fl_X4_26 4 dX4_exchange_1 rfl (hS).1 (hS).2.2.2.1 ?_
  refine G.iload_n X 5 dX4_exchange_4 rfl rfl ?_
  refine G.aald X (i := g) 6 dX4_exchange_5 rfl (ShSt.kc hS) (by decide) (ShSt.rc hS (by omega)) rfl (by omega) (by decide) ?_
  refine G.getf (v := vi ((hasN r g : Int))) X fl_X4_90 9 dX4_exchange_6 rfl (ShSt.c hS (by omega)).1 ((xV_int ((ShSt.c hS (by omega)).2 4)).trans (congrArg vi ?_)) ?_
  · omega
  refine G.istore_n (ls' := [_, _, _, _, _]) X 10 dX4_exchange_9 rfl (by decide) rfl ?_
  refine G.aload_n X 11 dX4_exchange_10 rfl rfl ?_
  refine G.iload_n X 12 dX4_exchange_11 rfl rfl ?_
  refine G.vI1 (d := 0) X ml_X4_107 yv_X4_leastInYard 15 dX4_exchange_12 rfl (c_X4_leastInYard l D Bs _ kd rf _ _ _ _ (hS) hV hM hg) ⟨_, _, (hS).1, rfl, rfl⟩ (by decide) ⟨Nat.zero_le _, Nat.zero_le _⟩ (Nat.le_of_ble_eq_true rfl) (fun r12 M12 h12 => ?_)
  obtain ⟨hr12, hm12⟩ := h12
  obtain rfl : r12 = (u : Int) := hr12.trans hu
  obtain rfl := hm12.symm
  refine G.istore (ls' := [_, _, _, _, _]) X 17 dX4_exchange_15 rfl (by decide) rfl ?_
  refine G.aload_n X 18 dX4_exchange_17 rfl rfl ?_
  refine G.iload_n X 19 dX4_exchange_18 rfl rfl ?_
  refine G.vI1 (d := 0) X ml_X4_93 yv_X4_isSet 22 dX4_exchange_19 rfl (c_X4_isSet l D Bs _ kd rf _ _ _ (hS) (by omega) (by omega)) ⟨_, _, (hS).1, rfl, rfl⟩ (by decide) ⟨Nat.zero_le _, Nat.zero_le _⟩ (Nat.le_of_ble_eq_true rfl) (fun r19 M19 h19 => ?_)
  obtain ⟨hr19, hm19⟩ := h19
  subst hr19
  obtain rfl := hm19.symm
  refine G.ifb_eq X 47 25 dX4_exchange_22 (by decide) rfl (fun hc22 => ?_) (fun hc22 => ?_)
  · refine G.vret X dX4_exchange_47 ⟨Nat.le_refl _, Nat.le_refl _⟩ ⟨rfl, rfl, rfl, rfl, ?_⟩
    first
      | (exfalso; omega)
      | (refine ⟨?_, h38.2.trans h44.2⟩
         unfold swapR
         rw [hu]
         exact h44.1)
  · refine G.aload_n X 26 dX4_exchange_25 rfl rfl ?_
    refine G.iload X 28 dX4_exchange_26 rfl rfl ?_
    refine G.vI1 (d := 0) X ml_X4_93 yv_X4_isSet 31 dX4_exchange_28 rfl (c_X4_isSet l D Bs _ kd rf _ _ _ (hS) (by omega) (by omega)) ⟨_, _, (hS).1, rfl, rfl⟩ (by decide) ⟨Nat.zero_le _, Nat.zero_le _⟩ (Nat.le_of_ble_eq_true rfl) (fun r28 M28 h28 => ?_)
    obtain ⟨hr28, hm28⟩ := h28
    subst hr28
    obtain rfl := hm28.symm
    refine G.ifb_eq X 47 34 dX4_exchange_31 (by decide) rfl (fun hc31 => ?_) (fun hc31 => ?_)
    · refine G.vret X dX4_exchange_47 ⟨Nat.le_refl _, Nat.le_refl _⟩ ⟨rfl, rfl, rfl, rfl, ?_⟩
      first
        | (exfalso; omega)
        | (refine ⟨?_, h38.2.trans h44.2⟩
           unfold swapR
           rw [hu]
           exact h44.1)
    · refine G.aload_n X 35 dX4_exchange_34 rfl rfl ?_
      refine G.iload X 37 dX4_exchange_35 rfl rfl ?_
      refine G.iload_n X 38 dX4_exchange_37 rfl rfl ?_
      refine G.vV2 (d := 1) X ml_X4_111 yv_X4_send 41 dX4_exchange_38 rfl (c_X4_send l D Bs _ kd rf _ _ _ _ _ (hS) hV hM huS hg) ⟨_, _, (hS).1, rfl, rfl⟩ (by decide) ⟨Nat.zero_le _, Nat.zero_le _⟩ (Nat.le_of_ble_eq_true rfl) (fun M38 h38 => ?_)
      refine G.aload_n X 42 dX4_exchange_41 rfl rfl ?_
      refine G.iload_n X 43 dX4_exchange_42 rfl rfl ?_
      refine G.iload_n X 44 dX4_exchange_43 rfl rfl ?_
      have hV2 := Vb.come hV (by decide) huS hg
      have e6 : nS (comeR r u g) = nS r := nS_of (comeR_0 (by decide))
      have e7 : nC (comeR r u g) = nC r := nC_of (comeR_0 (by decide))
      refine G.vV2 (d := 1) X ml_X4_111 yv_X4_send 47 dX4_exchange_44 rfl (c_X4_send l D Bs _ kd rf _ _ _ _ _ (hS) hV2 h38.1 (by omega) (by omega)) ⟨_, _, (hS).1, rfl, rfl⟩ (by decide) ⟨Nat.zero_le _, Nat.zero_le _⟩ (Nat.le_of_ble_eq_true rfl) (fun M44 h44 => ?_)
      refine G.vret X dX4_exchange_47 ⟨Nat.le_refl _, Nat.le_refl _⟩ ⟨rfl, rfl, rfl, rfl, ?_⟩
      first
        | (exfalso; omega)
        | (refine ⟨?_, h38.2.trans h44.2⟩
           unfold swapR
           rw [hu]
           exact h44.1)
set_option maxHeartbeats 4000000 in
set_option maxRecDepth 100000 in
theorem c_X4_appendSet (l : Launch) (D : xD) (Bs sz : Nat) (kd : xKd) (rf : xRf) (M : xM) (b : Nat) (x0 x1 x2 x3 : Int) (r : xR) (hS : ShSt kd rf b) (hV : Vk r) (hM : St M b r) (hn : nS r < 10) : CtI l D Bs yX4_appendSet cX4_appendSet 6 (some .int) 1 [.ref b, vi x0, vi x1, vi x2, vi x3] sz kd rf M (fun q M' => q = (nS r : Int) ∧ St M' b (addSetR r x0 x1 x2 x3) ∧ Off M M' b 25) := by
  refine Ctr.of (yv_X4_appendSet.1.2.2.2.2) (List.forall_mem_cons.mpr ⟨rfl, List.forall_mem_cons.mpr ⟨rfl, List.forall_mem_cons.mpr ⟨rfl, List.forall_mem_cons.mpr ⟨rfl, List.forall_mem_cons.mpr ⟨rfl, fun _ h => absurd h List.not_mem_nil⟩⟩⟩⟩⟩) (Nat.le_of_ble_eq_true rfl) [some (.ref b), some (vi x0), some (vi x1), some (vi x2), some (vi x3), none] rfl ?_
  intro p e s m args below meth c X hin
  obtain ⟨-, -, -, -, -, -, -, hb7, -⟩ := hM.1
  obtain ⟨n6, n6b⟩ := hV.n6
  obtain ⟨n7, n7b⟩ := hV.n7
  refine G.aload_n X 1 dX4_appendSet_0 rfl rfl ?_
  refine G.getR X fl_X4_20 4 dX4_appendSet_1 rfl (hS).1 (hS).2.2.1 ?_
  refine G.aload_n X 5 dX4_appendSet_4 rfl rfl ?_
  refine G.getf (v := vi ((nS r : Int))) X fl_X4_47 8 dX4_appendSet_5 rfl (hS).1 ((xV_int ((hS).2.1 7 (by decide))).trans (congrArg vi ?_)) ?_
  · omega
  refine G.aald X 9 dX4_appendSet_8 rfl (ShSt.kg hS) (by decide) (ShSt.rg hS (by omega)) rfl (by omega) (by decide) ?_
  refine G.astore (ls' := [_, _, _, _, _, _]) X 11 dX4_appendSet_9 rfl (by decide) rfl ?_
  refine G.aload X 13 dX4_appendSet_11 rfl rfl ?_
  refine G.iload_n X 14 dX4_appendSet_13 rfl rfl ?_
  refine G.putI X fl_X4_64 fi_1_0 rfl 17 dX4_appendSet_14 rfl (ShSt.g hS (by omega)).1 ((ShSt.g hS (by omega)).2 0) ?_
  refine G.aload X 19 dX4_appendSet_17 rfl rfl ?_
  refine G.iload_n X 20 dX4_appendSet_19 rfl rfl ?_
  refine G.putI X fl_X4_67 fi_1_1 rfl 23 dX4_appendSet_20 rfl (ShSt.g hS (by omega)).1 ((ShSt.g hS (by omega)).2 1) ?_
  refine G.aload X 25 dX4_appendSet_23 rfl rfl ?_
  refine G.iload_n X 26 dX4_appendSet_25 rfl rfl ?_
  refine G.putI X fl_X4_70 fi_1_2 rfl 29 dX4_appendSet_26 rfl (ShSt.g hS (by omega)).1 ((ShSt.g hS (by omega)).2 2) ?_
  refine G.aload X 31 dX4_appendSet_29 rfl rfl ?_
  refine G.iload X 33 dX4_appendSet_31 rfl rfl ?_
  refine G.putI X fl_X4_73 fi_1_3 rfl 36 dX4_appendSet_33 rfl (ShSt.g hS (by omega)).1 ((ShSt.g hS (by omega)).2 3) ?_
  refine G.aload X 38 dX4_appendSet_36 rfl rfl ?_
  refine G.iconst X 39 dX4_appendSet_38 rfl ?_
  refine G.putI X fl_X4_76 fi_1_4 rfl 42 dX4_appendSet_39 rfl (ShSt.g hS (by omega)).1 ((ShSt.g hS (by omega)).2 4) ?_
  refine G.aload X 44 dX4_appendSet_42 rfl rfl ?_
  refine G.iconst X 45 dX4_appendSet_44 rfl ?_
  refine G.putI X fl_X4_79 fi_1_8 rfl 48 dX4_appendSet_45 rfl (ShSt.g hS (by omega)).1 ((ShSt.g hS (by omega)).2 8) ?_
  refine G.aload X 50 dX4_appendSet_48 rfl rfl ?_
  refine G.bipush X 52 dX4_appendSet_50 rfl (by decide) ?_
  refine G.vV1 (d := 0) X ml_X4_82 yv_X1_moveTo 55 dX4_appendSet_52 rfl (c_X1_moveTo l D Bs _ kd rf _ _ _ (ShSt.g hS (by omega))) ⟨_, _, (ShSt.g hS (by omega)).1, rfl, rfl⟩ (by decide) ⟨Nat.zero_le _, Nat.zero_le _⟩ (Nat.le_of_ble_eq_true rfl) (fun M52 h52 => ?_)
  subst h52
  refine G.aload_n X 56 dX4_appendSet_55 rfl rfl ?_
  refine G.dup X 57 dX4_appendSet_56 rfl rfl ?_
  refine G.getf (v := vi (r 6)) X fl_X4_47 60 dX4_appendSet_57 rfl (hS).1 ((xV_int ((hS).2.1 7 (by decide))).trans (congrArg vi ?_)) ?_
  · simp only [mu_read, Nat.reduceEqDiff, and_false, reduceIte]
    repeat' split
    all_goals first | (exfalso; omega) | omega
  refine G.iconst X 61 dX4_appendSet_60 rfl ?_
  refine G.iadd X 62 dX4_appendSet_61 rfl ?_
  refine G.putI X fl_X4_47 fi_4_7 rfl 65 dX4_appendSet_62 rfl (hS).1 ((hS).2.1 7 (by decide)) ?_
  refine G.aload_n X 66 dX4_appendSet_65 rfl rfl ?_
  refine G.getf (v := vi (r 6 + 1)) X fl_X4_47 69 dX4_appendSet_66 rfl (hS).1 ((xV_int ((hS).2.1 7 (by decide))).trans (congrArg vi ?_)) ?_
  · exact mu_same
  refine G.iconst X 70 dX4_appendSet_69 rfl ?_
  refine G.isub X 71 dX4_appendSet_70 rfl ?_
  refine G.iret X dX4_appendSet_71 ⟨Nat.le_refl _, Nat.le_refl _⟩ ⟨rfl, rfl, rfl, _, rfl, ?_⟩
  refine ⟨by omega, ?_, Off.mu (Off.mu (Off.mu (Off.mu (Off.mu (Off.mu (Off.mu (Off.mu (Off.mu (Off.mu (Off.rf) (by omega)) (by omega)) (by omega)) (by omega)) (by omega)) (by omega)) (by omega)) (by omega)) (by omega)) (by omega)⟩
  refine hM.addSet n6 (by omega) n7b mu_same (fun k h9 h7 => ?_) ?_ ?_ ?_ ?_ ?_ ?_ ?_ ?_ ?_ (fun a h1 h2 => ?_)
  · rw [mu_ne (Or.inr h7)]
    simp only [mu_ne (Or.inl (show b ≠ b + 3 + nS r by omega))]
  all_goals try (rw [mu_ne (Or.inl (show b + 3 + nS r ≠ b by omega))]; simp only [mu_read, Nat.reduceEqDiff, and_false, and_true, and_self, reduceIte]; done)
  funext k
  rw [mu_ne (Or.inl h1)]
  simp only [mu_ne (Or.inl h2)]
set_option maxHeartbeats 4000000 in
set_option maxRecDepth 100000 in
theorem c_X4_appendSite (l : Launch) (D : xD) (Bs sz : Nat) (kd : xKd) (rf : xRf) (M : xM) (b : Nat) (x0 x1 x2 x3 : Int) (r : xR) (hS : ShSt kd rf b) (hV : Vk r) (hM : St M b r) (hn : nC r < 12) : CtI l D Bs yX4_appendSite cX4_appendSite 5 (some .int) 1 [.ref b, vi x0, vi x1, vi x2, vi x3] sz kd rf M (fun q M' => q = (nC r : Int) ∧ St M' b (addSiteR r x0 x1 x2 x3) ∧ Off M M' b 25) := by
  refine Ctr.of (yv_X4_appendSite.1.2.2.2.2) (List.forall_mem_cons.mpr ⟨rfl, List.forall_mem_cons.mpr ⟨rfl, List.forall_mem_cons.mpr ⟨rfl, List.forall_mem_cons.mpr ⟨rfl, List.forall_mem_cons.mpr ⟨rfl, fun _ h => absurd h List.not_mem_nil⟩⟩⟩⟩⟩) (Nat.le_of_ble_eq_true rfl) [some (.ref b), some (vi x0), some (vi x1), some (vi x2), some (vi x3)] rfl ?_
  intro p e s m args below meth c X hin
  obtain ⟨-, -, -, -, -, -, -, -, hb8⟩ := hM.1
  obtain ⟨n6, n6b⟩ := hV.n6
  obtain ⟨n7, n7b⟩ := hV.n7
  refine G.aload_n X 1 dX4_appendSite_0 rfl rfl ?_
  refine G.getR X fl_X4_26 4 dX4_appendSite_1 rfl (hS).1 (hS).2.2.2.1 ?_
  refine G.aload_n X 5 dX4_appendSite_4 rfl rfl ?_
  refine G.getf (v := vi ((nC r : Int))) X fl_X4_50 8 dX4_appendSite_5 rfl (hS).1 ((xV_int ((hS).2.1 8 (by decide))).trans (congrArg vi ?_)) ?_
  · omega
  refine G.aald X 9 dX4_appendSite_8 rfl (ShSt.kc hS) (by decide) (ShSt.rc hS (by omega)) rfl (by omega) (by decide) ?_
  refine G.iload_n X 10 dX4_appendSite_9 rfl rfl ?_
  refine G.iload_n X 11 dX4_appendSite_10 rfl rfl ?_
  refine G.iload_n X 12 dX4_appendSite_11 rfl rfl ?_
  refine G.iload X 14 dX4_appendSite_12 rfl rfl ?_
  refine G.vV4 (d := 0) X ml_X4_86 yv_X0_begin 17 dX4_appendSite_14 rfl (c_X0_begin l D Bs _ kd rf _ _ _ _ _ _ (ShSt.c hS (by omega))) ⟨_, _, (ShSt.c hS (by omega)).1, rfl, rfl⟩ (by decide) ⟨Nat.zero_le _, Nat.zero_le _⟩ (Nat.le_of_ble_eq_true rfl) (fun M14 h14 => ?_)
  have e14 : M14 b = M b := h14.2 b (by omega)
  refine G.aload_n X 18 dX4_appendSite_17 rfl rfl ?_
  refine G.dup X 19 dX4_appendSite_18 rfl rfl ?_
  refine G.getf (v := vi (r 7)) X fl_X4_50 22 dX4_appendSite_19 rfl (hS).1 ((xV_int ((hS).2.1 8 (by decide))).trans (congrArg vi ?_)) ?_
  · rw [e14]; exact hb8
  refine G.iconst X 23 dX4_appendSite_22 rfl ?_
  refine G.iadd X 24 dX4_appendSite_23 rfl ?_
  refine G.putI X fl_X4_50 fi_4_8 rfl 27 dX4_appendSite_24 rfl (hS).1 ((hS).2.1 8 (by decide)) ?_
  refine G.aload_n X 28 dX4_appendSite_27 rfl rfl ?_
  refine G.getf (v := vi (r 7 + 1)) X fl_X4_50 31 dX4_appendSite_28 rfl (hS).1 ((xV_int ((hS).2.1 8 (by decide))).trans (congrArg vi ?_)) ?_
  · exact mu_same
  refine G.iconst X 32 dX4_appendSite_31 rfl ?_
  refine G.isub X 33 dX4_appendSite_32 rfl ?_
  refine G.iret X dX4_appendSite_33 ⟨Nat.le_refl _, Nat.le_refl _⟩ ⟨rfl, rfl, rfl, _, rfl, ?_⟩
  refine ⟨by omega, ?_, ?_⟩
  · refine hM.addSite n7 n6b (by omega) mu_same (fun k h9 h8 => ?_) ?_ (fun a h1 h2 => ?_)
    · rw [mu_ne (Or.inr h8), e14]
    · have e : mu M14 b 8 (r 7 + 1) (b + 13 + nC r) = M14 (b + 13 + nC r) := ms_ne (by omega)
      rw [e]
      exact h14.1
    · exact (ms_ne h1).trans (h14.2 a h2)
  · intro a ha
    exact (ms_ne (by omega)).trans (h14.2 a (by omega))
end
section
theorem St.copy {M M' : xM} {b b2 : Nat} {r : xR} (h : St M b2 r) (hA : ∀ q, q < 9 → M' b q = M b2 q) (hB : ∀ j, j < nS r → ∀ q, q < 9 → M' (b + 3 + j) q = M (b2 + 3 + j) q) (hC : ∀ j, j < nC r → ∀ q, q < 9 → M' (b + 13 + j) q = M (b2 + 13 + j) q) : St M' b r := by
  refine ⟨?_, fun i hi => ?_, fun i hi => ?_⟩
  · rw [hA 0 (by decide), hA 1 (by decide), hA 2 (by decide), hA 3 (by decide), hA 4 (by decide), hA 5 (by decide), hA 6 (by decide), hA 7 (by decide), hA 8 (by decide)]
    exact h.1
  · have g := h.2.1 i hi
    have e := hB i hi
    unfold Gen at g ⊢
    rw [e 0 (by decide), e 1 (by decide), e 2 (by decide), e 3 (by decide), e 4 (by decide), e 5 (by decide), e 6 (by decide), e 7 (by decide), e 8 (by decide)]
    exact g
  · have g := h.2.2 i hi
    have e := hC i hi
    unfold Cus at g ⊢
    rw [e 0 (by decide), e 1 (by decide), e 2 (by decide), e 3 (by decide), e 4 (by decide), e 5 (by decide), e 6 (by decide), e 7 (by decide), e 8 (by decide)]
    exact g
theorem ins_done {key : Nat → Int} {L : List Nat} {x k : Nat} {f : Nat → Int} (hk : k ≤ L.length) (hs : SortK key L) (hA : ∀ q, q < k → f q = ((L.getD q 0 : Nat) : Int)) (hB : ∀ q, k ≤ q → q < L.length → f (q + 1) = ((L.getD q 0 : Nat) : Int)) (hK : k < L.length → key (L.getD k 0) < key x) (h0 : k = 0 ∨ ¬ key (L.getD (k - 1) 0) < key x) : ∀ q, q < L.length + 1 → fu f k (x : Int) q = (((insK key x L).getD q 0 : Nat) : Int) := by
  intro q hq
  have hb : ∀ j, j < k → ¬ key (L.getD j 0) < key x := by
    intro j hj
    rcases h0 with h0 | h0
    · omega
    · by_cases e : j = k - 1
      · rw [e]; exact h0
      · have h1 : j < L.length := by omega
        have h2 : k - 1 < L.length := by omega
        have h3 := (List.pairwise_iff_getElem.mp hs) j (k - 1) h1 h2 (by omega)
        rw [show L.getD j 0 = L[j] by simp [List.getD_eq_getElem?_getD, h1]]
        rw [show L.getD (k - 1) 0 = L[k - 1] by simp [List.getD_eq_getElem?_getD, h2]] at h0
        omega
  rw [insK_split L k hk hb hK, insAt_getD hk]
  by_cases h1 : q < k
  · rw [if_pos h1, fu_ne (by omega)]
    exact hA q h1
  · rw [if_neg h1]
    by_cases h2 : q = k
    · subst h2
      rw [if_pos rfl, fu_same]
    · rw [if_neg h2, fu_ne h2]
      have h3 := hB (q - 1) (by omega) (by omega)
      rw [show q - 1 + 1 = q by omega] at h3
      exact h3
theorem hoursL_rng {r : xR} {i : Nat} {w : Int} (h : Vset r i w) : 0 ≤ hoursL r i ∧ hoursL r i ≤ 500 := by
  obtain ⟨-, h1, h2, -, h4, -⟩ := h
  unfold hoursL
  constructor
  · exact Int.ediv_nonneg (by omega) (by omega)
  · have h5 : fS r i 4 / fS r i 2 ≤ fS r i 4 := Int.ediv_le_self _ (by omega)
    omega
set_option maxHeartbeats 4000000 in
set_option maxRecDepth 100000 in
theorem c_X4_copyFrom (l : Launch) (D : xD) (Bs sz : Nat) (kd : xKd) (rf : xRf) (M : xM) (b b2 : Nat) (r : xR) (hS : ShSt kd rf b) (hS2 : ShSt kd rf b2) (hV : Vk r) (hM : St M b2 r) (hd : b + 25 ≤ b2 ∨ b2 + 25 ≤ b) : CtV l D Bs yX4_copyFrom cX4_copyFrom 3 none 1 [.ref b, .ref b2] sz kd rf M (fun M' => St M' b r ∧ Off M M' b 25) := by
  refine Ctr.of (yv_X4_copyFrom.1.2.2.2.2) (List.forall_mem_cons.mpr ⟨rfl, List.forall_mem_cons.mpr ⟨rfl, fun _ h => absurd h List.not_mem_nil⟩⟩) (Nat.le_of_ble_eq_true rfl) [some (.ref b), some (.ref b2), none] rfl ?_
  intro p e s m args below meth c X hin
  obtain ⟨-, -, -, -, -, -, -, hb7, hb8⟩ := hM.1
  obtain ⟨n6, n6b⟩ := hV.n6
  obtain ⟨n7, n7b⟩ := hV.n7
  have L105 : ∀ (k : Nat) (i : Nat) (M1 : xM), i + k = nC r → (∀ q, q < 9 → M1 b q = M b2 q) → (∀ j, j < nS r → ∀ q, q < 9 → M1 (b + 3 + j) q = M (b2 + 3 + j) q) → (∀ j, j < i → ∀ q, q < 9 → M1 (b + 13 + j) q = M (b2 + 13 + j) q) → Off M M1 b 25 → G p l e (rmd 1) s m args below meth c D Bs 3 0 0 (MQ below (xQ D Bs (pV sz kd rf (fun M' => St M' b r ∧ Off M M' b 25))) args s 0 0 (fun q => Bs ≤ q)) sz kd rf (M1) 105 [some (.ref b), some (.ref b2), some (vi (i : Int))] [] := by
    intro k
    induction k with
    | zero =>
      intro i M1 hik hA hB hC hO
      have h8 := hA 8 (by decide)
      obtain rfl : i = nC r := by omega
      refine G.iload_n X 106 dX4_copyFrom_105 rfl rfl ?_
      refine G.aload_n X 107 dX4_copyFrom_106 rfl rfl ?_
      refine G.getI X fl_X4_50 110 dX4_copyFrom_107 rfl (hS).1 ((hS).2.1 8 (by decide)) ?_
      refine G.icmp_ge X 134 113 dX4_copyFrom_110 (by decide) rfl (by omega) (by omega) (fun hc110 => ?_) (fun hc110 => ?_)
      · refine G.vret X dX4_copyFrom_134 ⟨Nat.le_refl _, Nat.le_refl _⟩ ⟨rfl, rfl, rfl, rfl, ?_⟩
        exact ⟨hM.copy hA hB hC, hO⟩
      · exfalso; omega
    | succ k ih =>
      intro i M1 hik hA hB hC hO
      have h8 := hA 8 (by decide)
      refine G.iload_n X 106 dX4_copyFrom_105 rfl rfl ?_
      refine G.aload_n X 107 dX4_copyFrom_106 rfl rfl ?_
      refine G.getI X fl_X4_50 110 dX4_copyFrom_107 rfl (hS).1 ((hS).2.1 8 (by decide)) ?_
      refine G.icmp_ge X 134 113 dX4_copyFrom_110 (by decide) rfl (by omega) (by omega) (fun hc110 => ?_) (fun hc110 => ?_)
      · exfalso; omega
      · refine G.aload_n X 114 dX4_copyFrom_113 rfl rfl ?_
        refine G.getR X fl_X4_26 117 dX4_copyFrom_114 rfl (hS).1 (hS).2.2.2.1 ?_
        refine G.iload_n X 118 dX4_copyFrom_117 rfl rfl ?_
        refine G.aald X 119 dX4_copyFrom_118 rfl (ShSt.kc hS) (by decide) (ShSt.rc hS (by omega)) rfl (by omega) (by decide) ?_
        refine G.aload_n X 120 dX4_copyFrom_119 rfl rfl ?_
        refine G.getR X fl_X4_26 123 dX4_copyFrom_120 rfl (hS2).1 (hS2).2.2.2.1 ?_
        refine G.iload_n X 124 dX4_copyFrom_123 rfl rfl ?_
        refine G.aald X 125 dX4_copyFrom_124 rfl (ShSt.kc hS2) (by decide) (ShSt.rc hS2 (by omega)) rfl (by omega) (by decide) ?_
        refine G.vV1 (d := 0) X ml_X4_57 yv_X0_copyFrom 128 dX4_copyFrom_125 rfl (c_X0_copyFrom l D Bs _ kd rf _ _ _ (ShSt.c hS (by omega)) (ShSt.c hS2 (by omega)) (by omega)) ⟨_, _, (ShSt.c hS (by omega)).1, rfl, rfl⟩ (by decide) ⟨Nat.zero_le _, Nat.zero_le _⟩ (Nat.le_of_ble_eq_true rfl) (fun M125 h125 => ?_)
        refine G.iinc (ls' := [_, _, _]) X 131 dX4_copyFrom_128 rfl rfl (by decide) rfl ?_
        refine G.goto X 105 dX4_copyFrom_131 (by decide) ?_
        refine ih (i + 1) _ (by omega) (fun q hq => by rw [h125.2 b (by omega)]; exact hA q hq) (fun j hj q hq => by rw [h125.2 _ (by omega)]; exact hB j hj q hq) (fun j hj q hq => ?_) (fun a ha => (h125.2 a (by omega)).trans (hO a ha))
        by_cases e : j = i
        · subst e
          rw [h125.1 q hq, hO _ (by omega)]
        · rw [h125.2 _ (by omega)]
          exact hC j (by omega) q hq
  have L74 : ∀ (k : Nat) (i : Nat) (M1 : xM), i + k = nS r → (∀ q, q < 9 → M1 b q = M b2 q) → (∀ j, j < i → ∀ q, q < 9 → M1 (b + 3 + j) q = M (b2 + 3 + j) q) → Off M M1 b 25 → G p l e (rmd 1) s m args below meth c D Bs 3 0 0 (MQ below (xQ D Bs (pV sz kd rf (fun M' => St M' b r ∧ Off M M' b 25))) args s 0 0 (fun q => Bs ≤ q)) sz kd rf (M1) 74 [some (.ref b), some (.ref b2), some (vi (i : Int))] [] := by
    intro k
    induction k with
    | zero =>
      intro i M1 hik hA hB hO
      have h7 := hA 7 (by decide)
      obtain rfl : i = nS r := by omega
      refine G.iload_n X 75 dX4_copyFrom_74 rfl rfl ?_
      refine G.aload_n X 76 dX4_copyFrom_75 rfl rfl ?_
      refine G.getI X fl_X4_47 79 dX4_copyFrom_76 rfl (hS).1 ((hS).2.1 7 (by decide)) ?_
      refine G.icmp_ge X 103 82 dX4_copyFrom_79 (by decide) rfl (by omega) (by omega) (fun hc79 => ?_) (fun hc79 => ?_)
      · refine G.iconst X 104 dX4_copyFrom_103 rfl ?_
        refine G.istore_n (ls' := [_, _, _]) X 105 dX4_copyFrom_104 rfl (by decide) rfl ?_
        exact L105 (nC r) 0 M1 (by omega) hA hB (fun j hj => absurd hj (by omega)) hO
      · exfalso; omega
    | succ k ih =>
      intro i M1 hik hA hB hO
      have h7 := hA 7 (by decide)
      refine G.iload_n X 75 dX4_copyFrom_74 rfl rfl ?_
      refine G.aload_n X 76 dX4_copyFrom_75 rfl rfl ?_
      refine G.getI X fl_X4_47 79 dX4_copyFrom_76 rfl (hS).1 ((hS).2.1 7 (by decide)) ?_
      refine G.icmp_ge X 103 82 dX4_copyFrom_79 (by decide) rfl (by omega) (by omega) (fun hc79 => ?_) (fun hc79 => ?_)
      · exfalso; omega
      · refine G.aload_n X 83 dX4_copyFrom_82 rfl rfl ?_
        refine G.getR X fl_X4_20 86 dX4_copyFrom_83 rfl (hS).1 (hS).2.2.1 ?_
        refine G.iload_n X 87 dX4_copyFrom_86 rfl rfl ?_
        refine G.aald X 88 dX4_copyFrom_87 rfl (ShSt.kg hS) (by decide) (ShSt.rg hS (by omega)) rfl (by omega) (by decide) ?_
        refine G.aload_n X 89 dX4_copyFrom_88 rfl rfl ?_
        refine G.getR X fl_X4_20 92 dX4_copyFrom_89 rfl (hS2).1 (hS2).2.2.1 ?_
        refine G.iload_n X 93 dX4_copyFrom_92 rfl rfl ?_
        refine G.aald X 94 dX4_copyFrom_93 rfl (ShSt.kg hS2) (by decide) (ShSt.rg hS2 (by omega)) rfl (by omega) (by decide) ?_
        refine G.vV1 (d := 0) X ml_X4_53 yv_X1_copyFrom 97 dX4_copyFrom_94 rfl (c_X1_copyFrom l D Bs _ kd rf _ _ _ (ShSt.g hS (by omega)) (ShSt.g hS2 (by omega)) (by omega)) ⟨_, _, (ShSt.g hS (by omega)).1, rfl, rfl⟩ (by decide) ⟨Nat.zero_le _, Nat.zero_le _⟩ (Nat.le_of_ble_eq_true rfl) (fun M94 h94 => ?_)
        refine G.iinc (ls' := [_, _, _]) X 100 dX4_copyFrom_97 rfl rfl (by decide) rfl ?_
        refine G.goto X 74 dX4_copyFrom_100 (by decide) ?_
        refine ih (i + 1) _ (by omega) (fun q hq => by rw [h94.2 b (by omega)]; exact hA q hq) (fun j hj q hq => ?_) (fun a ha => (h94.2 a (by omega)).trans (hO a ha))
        by_cases e : j = i
        · subst e
          rw [h94.1 q hq, hO _ (by omega)]
        · rw [h94.2 _ (by omega)]
          exact hB j (by omega) q hq
  refine G.aload_n X 1 dX4_copyFrom_0 rfl rfl ?_
  refine G.aload_n X 2 dX4_copyFrom_1 rfl rfl ?_
  refine G.getf (v := vi (M b2 0)) X fl_X4_32 5 dX4_copyFrom_2 rfl (hS2).1 ((xV_int ((hS2).2.1 0 (by decide))).trans (congrArg vi ?_)) ?_
  · simp only [mu_read]
    repeat' split
    all_goals first | rfl | (exfalso; omega)
  refine G.putI X fl_X4_32 fi_4_0 rfl 8 dX4_copyFrom_5 rfl (hS).1 ((hS).2.1 0 (by decide)) ?_
  refine G.aload_n X 9 dX4_copyFrom_8 rfl rfl ?_
  refine G.aload_n X 10 dX4_copyFrom_9 rfl rfl ?_
  refine G.getf (v := vi (M b2 1)) X fl_X4_9 13 dX4_copyFrom_10 rfl (hS2).1 ((xV_int ((hS2).2.1 1 (by decide))).trans (congrArg vi ?_)) ?_
  · simp only [mu_read]
    repeat' split
    all_goals first | rfl | (exfalso; omega)
  refine G.putI X fl_X4_9 fi_4_1 rfl 16 dX4_copyFrom_13 rfl (hS).1 ((hS).2.1 1 (by decide)) ?_
  refine G.aload_n X 17 dX4_copyFrom_16 rfl rfl ?_
  refine G.aload_n X 18 dX4_copyFrom_17 rfl rfl ?_
  refine G.getf (v := vi (M b2 2)) X fl_X4_15 21 dX4_copyFrom_18 rfl (hS2).1 ((xV_int ((hS2).2.1 2 (by decide))).trans (congrArg vi ?_)) ?_
  · simp only [mu_read]
    repeat' split
    all_goals first | rfl | (exfalso; omega)
  refine G.putI X fl_X4_15 fi_4_2 rfl 24 dX4_copyFrom_21 rfl (hS).1 ((hS).2.1 2 (by decide)) ?_
  refine G.aload_n X 25 dX4_copyFrom_24 rfl rfl ?_
  refine G.aload_n X 26 dX4_copyFrom_25 rfl rfl ?_
  refine G.getf (v := vi (M b2 3)) X fl_X4_35 29 dX4_copyFrom_26 rfl (hS2).1 ((xV_int ((hS2).2.1 3 (by decide))).trans (congrArg vi ?_)) ?_
  · simp only [mu_read]
    repeat' split
    all_goals first | rfl | (exfalso; omega)
  refine G.putI X fl_X4_35 fi_4_3 rfl 32 dX4_copyFrom_29 rfl (hS).1 ((hS).2.1 3 (by decide)) ?_
  refine G.aload_n X 33 dX4_copyFrom_32 rfl rfl ?_
  refine G.aload_n X 34 dX4_copyFrom_33 rfl rfl ?_
  refine G.getf (v := vi (M b2 4)) X fl_X4_38 37 dX4_copyFrom_34 rfl (hS2).1 ((xV_int ((hS2).2.1 4 (by decide))).trans (congrArg vi ?_)) ?_
  · simp only [mu_read]
    repeat' split
    all_goals first | rfl | (exfalso; omega)
  refine G.putI X fl_X4_38 fi_4_4 rfl 40 dX4_copyFrom_37 rfl (hS).1 ((hS).2.1 4 (by decide)) ?_
  refine G.aload_n X 41 dX4_copyFrom_40 rfl rfl ?_
  refine G.aload_n X 42 dX4_copyFrom_41 rfl rfl ?_
  refine G.getf (v := vi (M b2 5)) X fl_X4_41 45 dX4_copyFrom_42 rfl (hS2).1 ((xV_int ((hS2).2.1 5 (by decide))).trans (congrArg vi ?_)) ?_
  · simp only [mu_read]
    repeat' split
    all_goals first | rfl | (exfalso; omega)
  refine G.putI X fl_X4_41 fi_4_5 rfl 48 dX4_copyFrom_45 rfl (hS).1 ((hS).2.1 5 (by decide)) ?_
  refine G.aload_n X 49 dX4_copyFrom_48 rfl rfl ?_
  refine G.aload_n X 50 dX4_copyFrom_49 rfl rfl ?_
  refine G.getf (v := vi (M b2 6)) X fl_X4_44 53 dX4_copyFrom_50 rfl (hS2).1 ((xV_int ((hS2).2.1 6 (by decide))).trans (congrArg vi ?_)) ?_
  · simp only [mu_read]
    repeat' split
    all_goals first | rfl | (exfalso; omega)
  refine G.putI X fl_X4_44 fi_4_6 rfl 56 dX4_copyFrom_53 rfl (hS).1 ((hS).2.1 6 (by decide)) ?_
  refine G.aload_n X 57 dX4_copyFrom_56 rfl rfl ?_
  refine G.aload_n X 58 dX4_copyFrom_57 rfl rfl ?_
  refine G.getf (v := vi (M b2 7)) X fl_X4_47 61 dX4_copyFrom_58 rfl (hS2).1 ((xV_int ((hS2).2.1 7 (by decide))).trans (congrArg vi ?_)) ?_
  · simp only [mu_read]
    repeat' split
    all_goals first | rfl | (exfalso; omega)
  refine G.putI X fl_X4_47 fi_4_7 rfl 64 dX4_copyFrom_61 rfl (hS).1 ((hS).2.1 7 (by decide)) ?_
  refine G.aload_n X 65 dX4_copyFrom_64 rfl rfl ?_
  refine G.aload_n X 66 dX4_copyFrom_65 rfl rfl ?_
  refine G.getf (v := vi (M b2 8)) X fl_X4_50 69 dX4_copyFrom_66 rfl (hS2).1 ((xV_int ((hS2).2.1 8 (by decide))).trans (congrArg vi ?_)) ?_
  · simp only [mu_read]
    repeat' split
    all_goals first | rfl | (exfalso; omega)
  refine G.putI X fl_X4_50 fi_4_8 rfl 72 dX4_copyFrom_69 rfl (hS).1 ((hS).2.1 8 (by decide)) ?_
  refine G.iconst X 73 dX4_copyFrom_72 rfl ?_
  refine G.istore_n (ls' := [_, _, _]) X 74 dX4_copyFrom_73 rfl (by decide) rfl ?_
  refine L74 (nS r) 0 _ (by omega) (fun q hq => ?_) (fun j hj => absurd hj (by omega)) (Off.mu (Off.mu (Off.mu (Off.mu (Off.mu (Off.mu (Off.mu (Off.mu (Off.mu (Off.rf) (by omega)) (by omega)) (by omega)) (by omega)) (by omega)) (by omega)) (by omega)) (by omega)) (by omega))
  rcases (by omega : q = 0 ∨ q = 1 ∨ q = 2 ∨ q = 3 ∨ q = 4 ∨ q = 5 ∨ q = 6 ∨ q = 7 ∨ q = 8) with h | h | h | h | h | h | h | h | h <;> subst h <;> simp [mu_read]
set_option maxHeartbeats 4000000 in
set_option maxRecDepth 100000 in
theorem c_X4_hoursLeftAt (l : Launch) (D : xD) (Bs sz : Nat) (kd : xKd) (rf : xRf) (M : xM) (b j : Nat) (r : xR) (hS : ShSt kd rf b) (hV : Vk r) (hM : St M b r) (hj : j < nC r) (h4 : 0 < fC r j 4) : CtI l D Bs yX4_hoursLeftAt cX4_hoursLeftAt 3 (some .int) 2 [.ref b, vi (j : Int)] sz kd rf M (fun q M' => q = hoursL r (hasN r j) ∧ M' = M) := by
  refine Ctr.of (yv_X4_hoursLeftAt.1.2.2.2.2) (List.forall_mem_cons.mpr ⟨rfl, List.forall_mem_cons.mpr ⟨rfl, fun _ h => absurd h List.not_mem_nil⟩⟩) (Nat.le_of_ble_eq_true rfl) [some (.ref b), some (vi (j : Int)), none] rfl ?_
  intro p e s m args below meth c X hin
  obtain ⟨-, -, -, -, -, -, -, hb7, -⟩ := hM.1
  obtain ⟨n6, n6b⟩ := hV.n6
  obtain ⟨n7, n7b⟩ := hV.n7
  obtain ⟨-, -, -, -, c4, -, -, -, -⟩ := hM.2.2 (j) hj
  obtain ⟨-, -, -, -, w4, -, -⟩ := hV.2.2 (j) hj
  refine G.aload_n X 1 dX4_hoursLeftAt_0 rfl rfl ?_
  refine G.aload_n X 2 dX4_hoursLeftAt_1 rfl rfl ?_
  refine G.getR X fl_X4_26 5 dX4_hoursLeftAt_2 rfl (hS).1 (hS).2.2.2.1 ?_
  refine G.iload_n X 6 dX4_hoursLeftAt_5 rfl rfl ?_
  refine G.aald X 7 dX4_hoursLeftAt_6 rfl (ShSt.kc hS) (by decide) (ShSt.rc hS (by omega)) rfl (by omega) (by decide) ?_
  refine G.vR1 (d := 1) X ml_X4_97 yv_X4_supplyOf 10 dX4_hoursLeftAt_7 rfl (c_X4_supplyOf l D Bs _ kd rf _ _ _ (hS) (ShSt.c hS (by omega)) (by omega) (by omega)) ⟨_, _, (hS).1, rfl, rfl⟩ (by decide) ⟨Nat.zero_le _, Nat.zero_le _⟩ (Nat.le_of_ble_eq_true rfl) (fun r7 M7 h7 => ?_)
  obtain ⟨hm7, hz7⟩ := h7
  obtain rfl := hm7.symm
  rcases hz7 with ⟨hn7, hz7⟩ | ⟨i7, hi7, hj7, hn7⟩
  · subst hn7
    refine G.astore_nN (ls' := [_, _, _]) X 11 dX4_hoursLeftAt_10 rfl (by decide) rfl ?_
    refine G.aload_nN X 12 dX4_hoursLeftAt_11 rfl rfl ?_
    refine G.ifnonnullN X 15 dX4_hoursLeftAt_12 rfl ?_
    refine G.iconst X 16 dX4_hoursLeftAt_15 rfl ?_
    refine G.goto X 23 dX4_hoursLeftAt_16 (by decide) ?_
    refine G.iret X dX4_hoursLeftAt_23 ⟨Nat.le_refl _, Nat.le_refl _⟩ ⟨rfl, rfl, rfl, _, rfl, ?_⟩
    first | exact ⟨rfl, rfl⟩ | (exfalso; omega)
  · subst hn7
    obtain ⟨hh7, hl7⟩ : hasN r j = i7 ∧ i7 < nS r := by
      unfold hasN
      omega
    subst hh7
    obtain ⟨-, -, g2, -, g4, -, -, -, -⟩ := hM.2.1 (hasN r j) (by omega)
    obtain ⟨-, u1, u2, -, u4, -, -, -⟩ := hV.2.1 (hasN r j) (by omega)
    refine G.astore_n (ls' := [_, _, _]) X 11 dX4_hoursLeftAt_10 rfl (by decide) rfl ?_
    refine G.aload_n X 12 dX4_hoursLeftAt_11 rfl rfl ?_
    refine G.ifnonnull X 19 dX4_hoursLeftAt_12 (by decide) ?_
    refine G.aload_n X 20 dX4_hoursLeftAt_19 rfl rfl ?_
    refine G.vI0 (d := 0) X ml_X4_133 yv_X1_hoursLeft 23 dX4_hoursLeftAt_20 rfl (c_X1_hoursLeft l D Bs _ kd rf _ _ (ShSt.g (hS) (by omega)) (by omega) (by omega)) ⟨_, _, (ShSt.g (hS) (by omega)).1, rfl, rfl⟩ (by decide) ⟨Nat.zero_le _, Nat.zero_le _⟩ (Nat.le_of_ble_eq_true rfl) (fun r20 M20 h20 => ?_)
    obtain ⟨hr20, hm20⟩ := h20
    rw [g4, g2] at hr20
    obtain rfl : r20 = hoursL r (hasN r j) := hr20
    obtain rfl := hm20.symm
    refine G.iret X dX4_hoursLeftAt_23 ⟨Nat.le_refl _, Nat.le_refl _⟩ ⟨rfl, rfl, rfl, _, rfl, ?_⟩
    first | exact ⟨rfl, rfl⟩ | (exfalso; omega)
set_option maxHeartbeats 4000000 in
set_option maxRecDepth 100000 in
theorem c_X4_isAhead0 (l : Launch) (D : xD) (Bs sz : Nat) (kd : xKd) (rf : xRf) (M : xM) (b i j : Nat) (r : xR) (hS : ShSt kd rf b) (hV : Vk r) (hM : St M b r) (hi : i < nC r) (hj : j < nC r) : CtI l D Bs yX4_isAhead cX4_isAhead 5 (some .boolean) 3 [.ref b, vi (i : Int), vi (j : Int), vi 0] sz kd rf M (fun q M' => q = bi (nk r j < nk r i) ∧ M' = M) := by
  refine Ctr.of (yv_X4_isAhead.1.2.2.2.2) (List.forall_mem_cons.mpr ⟨rfl, List.forall_mem_cons.mpr ⟨rfl, List.forall_mem_cons.mpr ⟨rfl, List.forall_mem_cons.mpr ⟨rfl, fun _ h => absurd h List.not_mem_nil⟩⟩⟩⟩) (Nat.le_of_ble_eq_true rfl) [some (.ref b), some (vi (i : Int)), some (vi (j : Int)), some (vi 0), none] rfl ?_
  intro p e s m args below meth c X hin
  obtain ⟨n7, n7b⟩ := hV.n7
  obtain ⟨c0, c1, -, -, -, -, -, -, -⟩ := hM.2.2 (i) (by omega)
  obtain ⟨cv0, cv1, -, -, -, -, -⟩ := hV.2.2 (i) (by omega)
  obtain ⟨f0, f1, -, -, -, -, -, -, -⟩ := hM.2.2 (j) (by omega)
  obtain ⟨fv0, fv1, -, -, -, -, -⟩ := hV.2.2 (j) (by omega)
  refine G.iload_n X 1 dX4_isAhead_0 rfl rfl ?_
  refine G.if_eq X 18 4 dX4_isAhead_1 (by decide) rfl (by omega) (fun hc1 => ?_) (fun hc1 => ?_)
  · refine G.iconst X 19 dX4_isAhead_18 rfl ?_
    refine G.istore (ls' := [_, _, _, _, _]) X 21 dX4_isAhead_19 rfl (by decide) rfl ?_
    refine G.iload X 23 dX4_isAhead_21 rfl rfl ?_
    refine G.if_lt X 49 26 dX4_isAhead_23 (by decide) rfl (by omega) (fun hc23 => ?_) (fun hc23 => ?_)
    · exact absurd hc23 (by decide)
    · refine G.iload X 28 dX4_isAhead_26 rfl rfl ?_
      refine G.if_ne X 53 31 dX4_isAhead_28 (by decide) rfl (by omega) (fun hc28 => ?_) (fun hc28 => ?_)
      · exact absurd hc28 (by decide)
      · refine G.aload_n X 32 dX4_isAhead_31 rfl rfl ?_
        refine G.getR X fl_X4_26 35 dX4_isAhead_32 rfl (hS).1 (hS).2.2.2.1 ?_
        refine G.iload_n X 36 dX4_isAhead_35 rfl rfl ?_
        refine G.aald X 37 dX4_isAhead_36 rfl (ShSt.kc hS) (by decide) (ShSt.rc hS (by omega)) rfl (by omega) (by decide) ?_
        refine G.aload_n X 38 dX4_isAhead_37 rfl rfl ?_
        refine G.getR X fl_X4_26 41 dX4_isAhead_38 rfl (hS).1 (hS).2.2.2.1 ?_
        refine G.iload_n X 42 dX4_isAhead_41 rfl rfl ?_
        refine G.aald X 43 dX4_isAhead_42 rfl (ShSt.kc hS) (by decide) (ShSt.rc hS (by omega)) rfl (by omega) (by decide) ?_
        refine G.vI1 (d := 0) X ml_X4_129 yv_X0_needsMoreThan 46 dX4_isAhead_43 rfl (c_X0_needsMoreThan l D Bs _ kd rf _ _ _ (ShSt.c hS (by omega)) (ShSt.c hS (by omega)) (by omega) (by omega) (by omega) (by omega)) ⟨_, _, (ShSt.c hS (by omega)).1, rfl, rfl⟩ (by decide) ⟨Nat.zero_le _, Nat.zero_le _⟩ (Nat.le_of_ble_eq_true rfl) (fun r43 M43 h43 => ?_)
        obtain ⟨hr43, hm43⟩ := h43
        subst hr43
        obtain rfl := hm43.symm
        refine G.ifb_eq X 53 49 dX4_isAhead_46 (by decide) rfl (fun hc46 => ?_) (fun hc46 => ?_)
        · refine G.iconst X 54 dX4_isAhead_53 rfl ?_
          refine G.zret X dX4_isAhead_54 ⟨Nat.le_refl _, Nat.le_refl _⟩ (Or.inl rfl) ⟨rfl, rfl, rfl, _, rfl, ?_⟩
          unfold nk
          first | exact ⟨(bi_t (by omega)).symm, rfl⟩ | exact ⟨(bi_f (by omega)).symm, rfl⟩
        · refine G.iconst X 50 dX4_isAhead_49 rfl ?_
          refine G.goto X 54 dX4_isAhead_50 (by decide) ?_
          refine G.zret X dX4_isAhead_54 ⟨Nat.le_refl _, Nat.le_refl _⟩ (Or.inr rfl) ⟨rfl, rfl, rfl, _, rfl, ?_⟩
          unfold nk
          first | exact ⟨(bi_t (by omega)).symm, rfl⟩ | exact ⟨(bi_f (by omega)).symm, rfl⟩
  · exact absurd hc1 (by decide)
set_option maxHeartbeats 4000000 in
set_option maxRecDepth 100000 in
theorem c_X4_isAhead1 (l : Launch) (D : xD) (Bs sz : Nat) (kd : xKd) (rf : xRf) (M : xM) (b i j : Nat) (r : xR) (hS : ShSt kd rf b) (hV : Vk r) (hM : St M b r) (hi : i < nC r) (hj : j < nC r) (h4i : 0 < fC r i 4) (h4j : 0 < fC r j 4) : CtI l D Bs yX4_isAhead cX4_isAhead 5 (some .boolean) 3 [.ref b, vi (i : Int), vi (j : Int), vi 1] sz kd rf M (fun q M' => q = bi (tk r j < tk r i) ∧ M' = M) := by
  refine Ctr.of (yv_X4_isAhead.1.2.2.2.2) (List.forall_mem_cons.mpr ⟨rfl, List.forall_mem_cons.mpr ⟨rfl, List.forall_mem_cons.mpr ⟨rfl, List.forall_mem_cons.mpr ⟨rfl, fun _ h => absurd h List.not_mem_nil⟩⟩⟩⟩) (Nat.le_of_ble_eq_true rfl) [some (.ref b), some (vi (i : Int)), some (vi (j : Int)), some (vi 1), none] rfl ?_
  intro p e s m args below meth c X hin
  obtain ⟨n7, n7b⟩ := hV.n7
  obtain ⟨c0, c1, -, -, -, -, -, -, -⟩ := hM.2.2 (i) (by omega)
  obtain ⟨cv0, cv1, -, -, -, -, -⟩ := hV.2.2 (i) (by omega)
  obtain ⟨f0, f1, -, -, -, -, -, -, -⟩ := hM.2.2 (j) (by omega)
  obtain ⟨fv0, fv1, -, -, -, -, -⟩ := hV.2.2 (j) (by omega)
  have hxi := hoursL_rng (hV.2.1 (hasN r i) (hasN_lt hV hi h4i).1)
  have hxj := hoursL_rng (hV.2.1 (hasN r j) (hasN_lt hV hj h4j).1)
  refine G.iload_n X 1 dX4_isAhead_0 rfl rfl ?_
  refine G.if_eq X 18 4 dX4_isAhead_1 (by decide) rfl (by omega) (fun hc1 => ?_) (fun hc1 => ?_)
  · exact absurd hc1 (by decide)
  · refine G.aload_n X 5 dX4_isAhead_4 rfl rfl ?_
    refine G.iload_n X 6 dX4_isAhead_5 rfl rfl ?_
    refine G.vI1 (d := 2) X ml_X4_126 yv_X4_hoursLeftAt 9 dX4_isAhead_6 rfl (c_X4_hoursLeftAt l D Bs _ kd rf _ _ _ _ (hS) hV hM hi h4i) ⟨_, _, (hS).1, rfl, rfl⟩ (by decide) ⟨Nat.zero_le _, Nat.zero_le _⟩ (Nat.le_of_ble_eq_true rfl) (fun r6 M6 h6 => ?_)
    obtain ⟨hr6, hm6⟩ := h6
    subst hr6
    obtain rfl := hm6.symm
    refine G.aload_n X 10 dX4_isAhead_9 rfl rfl ?_
    refine G.iload_n X 11 dX4_isAhead_10 rfl rfl ?_
    refine G.vI1 (d := 2) X ml_X4_126 yv_X4_hoursLeftAt 14 dX4_isAhead_11 rfl (c_X4_hoursLeftAt l D Bs _ kd rf _ _ _ _ (hS) hV hM hj h4j) ⟨_, _, (hS).1, rfl, rfl⟩ (by decide) ⟨Nat.zero_le _, Nat.zero_le _⟩ (Nat.le_of_ble_eq_true rfl) (fun r11 M11 h11 => ?_)
    obtain ⟨hr11, hm11⟩ := h11
    subst hr11
    obtain rfl := hm11.symm
    refine G.isub X 15 dX4_isAhead_14 rfl ?_
    refine G.goto X 19 dX4_isAhead_15 (by decide) ?_
    refine G.istore (ls' := [_, _, _, _, _]) X 21 dX4_isAhead_19 rfl (by decide) rfl ?_
    refine G.iload X 23 dX4_isAhead_21 rfl rfl ?_
    refine G.if_lt X 49 26 dX4_isAhead_23 (by decide) rfl (by omega) (fun hc23 => ?_) (fun hc23 => ?_)
    · refine G.iconst X 50 dX4_isAhead_49 rfl ?_
      refine G.goto X 54 dX4_isAhead_50 (by decide) ?_
      refine G.zret X dX4_isAhead_54 ⟨Nat.le_refl _, Nat.le_refl _⟩ (Or.inr rfl) ⟨rfl, rfl, rfl, _, rfl, ?_⟩
      unfold tk nk
      first | exact ⟨(bi_t (by omega)).symm, rfl⟩ | exact ⟨(bi_f (by omega)).symm, rfl⟩
    · refine G.iload X 28 dX4_isAhead_26 rfl rfl ?_
      refine G.if_ne X 53 31 dX4_isAhead_28 (by decide) rfl (by omega) (fun hc28 => ?_) (fun hc28 => ?_)
      · refine G.iconst X 54 dX4_isAhead_53 rfl ?_
        refine G.zret X dX4_isAhead_54 ⟨Nat.le_refl _, Nat.le_refl _⟩ (Or.inl rfl) ⟨rfl, rfl, rfl, _, rfl, ?_⟩
        unfold tk nk
        first | exact ⟨(bi_t (by omega)).symm, rfl⟩ | exact ⟨(bi_f (by omega)).symm, rfl⟩
      · refine G.aload_n X 32 dX4_isAhead_31 rfl rfl ?_
        refine G.getR X fl_X4_26 35 dX4_isAhead_32 rfl (hS).1 (hS).2.2.2.1 ?_
        refine G.iload_n X 36 dX4_isAhead_35 rfl rfl ?_
        refine G.aald X 37 dX4_isAhead_36 rfl (ShSt.kc hS) (by decide) (ShSt.rc hS (by omega)) rfl (by omega) (by decide) ?_
        refine G.aload_n X 38 dX4_isAhead_37 rfl rfl ?_
        refine G.getR X fl_X4_26 41 dX4_isAhead_38 rfl (hS).1 (hS).2.2.2.1 ?_
        refine G.iload_n X 42 dX4_isAhead_41 rfl rfl ?_
        refine G.aald X 43 dX4_isAhead_42 rfl (ShSt.kc hS) (by decide) (ShSt.rc hS (by omega)) rfl (by omega) (by decide) ?_
        refine G.vI1 (d := 0) X ml_X4_129 yv_X0_needsMoreThan 46 dX4_isAhead_43 rfl (c_X0_needsMoreThan l D Bs _ kd rf _ _ _ (ShSt.c hS (by omega)) (ShSt.c hS (by omega)) (by omega) (by omega) (by omega) (by omega)) ⟨_, _, (ShSt.c hS (by omega)).1, rfl, rfl⟩ (by decide) ⟨Nat.zero_le _, Nat.zero_le _⟩ (Nat.le_of_ble_eq_true rfl) (fun r43 M43 h43 => ?_)
        obtain ⟨hr43, hm43⟩ := h43
        subst hr43
        obtain rfl := hm43.symm
        refine G.ifb_eq X 53 49 dX4_isAhead_46 (by decide) rfl (fun hc46 => ?_) (fun hc46 => ?_)
        · refine G.iconst X 54 dX4_isAhead_53 rfl ?_
          refine G.zret X dX4_isAhead_54 ⟨Nat.le_refl _, Nat.le_refl _⟩ (Or.inl rfl) ⟨rfl, rfl, rfl, _, rfl, ?_⟩
          unfold tk nk
          first | exact ⟨(bi_t (by omega)).symm, rfl⟩ | exact ⟨(bi_f (by omega)).symm, rfl⟩
        · refine G.iconst X 50 dX4_isAhead_49 rfl ?_
          refine G.goto X 54 dX4_isAhead_50 (by decide) ?_
          refine G.zret X dX4_isAhead_54 ⟨Nat.le_refl _, Nat.le_refl _⟩ (Or.inr rfl) ⟨rfl, rfl, rfl, _, rfl, ?_⟩
          unfold tk nk
          first | exact ⟨(bi_t (by omega)).symm, rfl⟩ | exact ⟨(bi_f (by omega)).symm, rfl⟩
set_option maxHeartbeats 4000000 in
set_option maxRecDepth 100000 in
theorem c_X4_insert0 (l : Launch) (D : xD) (Bs sz : Nat) (kd : xKd) (rf : xRf) (M : xM) (b o j : Nat) (L : List Nat) (r : xR) (hS : ShSt kd rf b) (hV : Vk r) (hM : St M b r) (hOA : IsA kd rf o 12) (ho : o < b ∨ b + 25 ≤ o) (hL : ∀ q, q < L.length → M o q = ((L.getD q 0 : Nat) : Int)) (hLn : L.length < 12) (hLm : ∀ q, q < L.length → L.getD q 0 < nC r) (hsort : SortK (nk r) L) (hj : j < nC r) : CtV l D Bs yX4_insert cX4_insert 6 none 4 [.ref b, .ref o, vi (L.length : Int), vi (j : Int), vi 0] sz kd rf M (fun M' => (∀ q, q < L.length + 1 → M' o q = (((insK (nk r) j L).getD q 0 : Nat) : Int)) ∧ ∀ a, a ≠ o → M' a = M a) := by
  refine Ctr.of (yv_X4_insert.1.2.2.2.2) (List.forall_mem_cons.mpr ⟨rfl, List.forall_mem_cons.mpr ⟨rfl, List.forall_mem_cons.mpr ⟨rfl, List.forall_mem_cons.mpr ⟨rfl, List.forall_mem_cons.mpr ⟨rfl, fun _ h => absurd h List.not_mem_nil⟩⟩⟩⟩⟩) (Nat.le_of_ble_eq_true rfl) [some (.ref b), some (.ref o), some (vi (L.length : Int)), some (vi (j : Int)), some (vi 0), none] rfl ?_
  intro p e s m args below meth c X hin
  obtain ⟨n6, n6b⟩ := hV.n6
  obtain ⟨n7, n7b⟩ := hV.n7
  have L3 : ∀ (k : Nat) (M1 : xM), k ≤ L.length → (∀ q, q < k → M1 o q = ((L.getD q 0 : Nat) : Int)) → (∀ q, k ≤ q → q < L.length → M1 o (q + 1) = ((L.getD q 0 : Nat) : Int)) → (∀ q, k ≤ q → q < L.length → nk r (L.getD q 0) < nk r j) → (∀ a, a ≠ o → M1 a = M a) → G p l e (rmd 4) s m args below meth c D Bs 6 0 0 (MQ below (xQ D Bs (pV sz kd rf (fun M' => (∀ q, q < L.length + 1 → M' o q = (((insK (nk r) j L).getD q 0 : Nat) : Int)) ∧ ∀ a, a ≠ o → M' a = M a))) args s 0 0 (fun q => Bs ≤ q)) sz kd rf (M1) 3 [some (.ref b), some (.ref o), some (vi (L.length : Int)), some (vi (j : Int)), some (vi 0), some (vi (k : Int))] [] := by
    intro k
    induction k with
    | zero =>
      intro M1 hk hA hB hK hO
      have hM1 : St M1 b r := hM.off ⟨n6b, n7b⟩ (fun a h1 h2 => hO a (by omega))
      refine G.iload X 5 dX4_insert_3 rfl rfl ?_
      refine G.if_le X 40 8 dX4_insert_5 (by decide) rfl (by omega) (fun hc5 => ?_) (fun hc5 => ?_)
      · refine G.aload_n X 41 dX4_insert_40 rfl rfl ?_
        refine G.iload X 43 dX4_insert_41 rfl rfl ?_
        refine G.iload_n X 44 dX4_insert_43 rfl rfl ?_
        refine G.iast X (i := 0) 45 dX4_insert_44 rfl (hOA).1 ((hOA).2 _) rfl (by omega) (by decide) ?_
        refine G.vret X dX4_insert_45 ⟨Nat.le_refl _, Nat.le_refl _⟩ ⟨rfl, rfl, rfl, rfl, ?_⟩
        refine ⟨fun q hq => ?_, fun a ha => (ms_ne ha).trans (hO a ha)⟩
        have e : mu M1 o 0 (j : Int) o q = fu (M1 o) 0 (j : Int) q := by
          show ms M1 o (fu (M1 o) 0 (j : Int)) o q = _
          rw [ms_same]
        rw [e]
        exact ins_done (by omega) hsort hA hB (fun h => hK _ (Nat.le_refl _) h) (Or.inl rfl) q hq
      · exfalso; omega
    | succ k ih =>
      intro M1 hk hA hB hK hO
      have hM1 : St M1 b r := hM.off ⟨n6b, n7b⟩ (fun a h1 h2 => hO a (by omega))
      refine G.iload X 5 dX4_insert_3 rfl rfl ?_
      refine G.if_le X 40 8 dX4_insert_5 (by decide) rfl (by omega) (fun hc5 => ?_) (fun hc5 => ?_)
      · exfalso; omega
      · refine G.aload_n X 9 dX4_insert_8 rfl rfl ?_
        refine G.iload_n X 10 dX4_insert_9 rfl rfl ?_
        refine G.aload_n X 11 dX4_insert_10 rfl rfl ?_
        refine G.iload X 13 dX4_insert_11 rfl rfl ?_
        refine G.iconst X 14 dX4_insert_13 rfl ?_
        refine G.isub X 15 dX4_insert_14 rfl ?_
        refine G.iald X (i := k) 16 dX4_insert_15 rfl (hOA).1 ((hOA).2 _) (by omega) (by omega) (by decide) ?_
        rw [hA k (by omega)]
        refine G.iload X 18 dX4_insert_16 rfl rfl ?_
        refine G.vI3 (d := 3) X ml_X4_122 yv_X4_isAhead 21 dX4_insert_18 rfl (c_X4_isAhead0 l D Bs _ kd rf _ _ _ _ _ (hS) hV hM1 hj (hLm k (by omega))) ⟨_, _, (hS).1, rfl, rfl⟩ (by decide) ⟨Nat.zero_le _, Nat.zero_le _⟩ (Nat.le_of_ble_eq_true rfl) (fun r18 M18 h18 => ?_)
        obtain ⟨hr18, hm18⟩ := h18
        subst hr18
        obtain rfl := hm18.symm
        refine G.ifb_eq X 40 24 dX4_insert_21 (by decide) rfl (fun hc21 => ?_) (fun hc21 => ?_)
        · refine G.aload_n X 41 dX4_insert_40 rfl rfl ?_
          refine G.iload X 43 dX4_insert_41 rfl rfl ?_
          refine G.iload_n X 44 dX4_insert_43 rfl rfl ?_
          refine G.iast X (i := (k + 1)) 45 dX4_insert_44 rfl (hOA).1 ((hOA).2 _) rfl (by omega) (by decide) ?_
          refine G.vret X dX4_insert_45 ⟨Nat.le_refl _, Nat.le_refl _⟩ ⟨rfl, rfl, rfl, rfl, ?_⟩
          refine ⟨fun q hq => ?_, fun a ha => (ms_ne ha).trans (hO a ha)⟩
          have e : mu M1 o (k + 1) (j : Int) o q = fu (M1 o) (k + 1) (j : Int) q := by
            show ms M1 o (fu (M1 o) (k + 1) (j : Int)) o q = _
            rw [ms_same]
          rw [e]
          exact ins_done (by omega) hsort hA hB (fun h => hK _ (Nat.le_refl _) h) (Or.inr hc21) q hq
        · refine G.aload_n X 25 dX4_insert_24 rfl rfl ?_
          refine G.iload X 27 dX4_insert_25 rfl rfl ?_
          refine G.aload_n X 28 dX4_insert_27 rfl rfl ?_
          refine G.iload X 30 dX4_insert_28 rfl rfl ?_
          refine G.iconst X 31 dX4_insert_30 rfl ?_
          refine G.isub X 32 dX4_insert_31 rfl ?_
          refine G.iald X (i := k) 33 dX4_insert_32 rfl (hOA).1 ((hOA).2 _) (by omega) (by omega) (by decide) ?_
          refine G.iast X (i := (k + 1)) 34 dX4_insert_33 rfl (hOA).1 ((hOA).2 _) rfl (by omega) (by decide) ?_
          refine G.iinc (ls' := [_, _, _, _, _, _]) X 37 dX4_insert_34 rfl rfl (by decide) rfl ?_
          rw [show ((k + 1 : Nat) : Int) + -1 = (k : Int) by omega]
          refine G.goto X 3 dX4_insert_37 (by decide) ?_
          refine ih _ (by omega) (fun q hq => ?_) (fun q h1 h2 => ?_) (fun q h1 h2 => ?_) (fun a ha => (ms_ne ha).trans (hO a ha))
          · rw [mu_ne (Or.inr (by omega))]
            exact hA q (by omega)
          · by_cases e : q = k
            · subst e
              rw [mu_same]
              exact hA q (by omega)
            · rw [mu_ne (Or.inr (by omega))]
              exact hB q (by omega) h2
          · by_cases e : q = k
            · subst e
              exact hc21
            · exact hK q (by omega) h2
  refine G.iload_n X 1 dX4_insert_0 rfl rfl ?_
  refine G.istore (ls' := [_, _, _, _, _, _]) X 3 dX4_insert_1 rfl (by decide) rfl ?_
  exact L3 L.length M (Nat.le_refl _) hL (fun q h1 h2 => absurd h2 (by omega)) (fun q h1 h2 => absurd h2 (by omega)) (fun a _ => rfl)
set_option maxHeartbeats 4000000 in
set_option maxRecDepth 100000 in
theorem c_X4_insert1 (l : Launch) (D : xD) (Bs sz : Nat) (kd : xKd) (rf : xRf) (M : xM) (b o j : Nat) (L : List Nat) (r : xR) (hS : ShSt kd rf b) (hV : Vk r) (hM : St M b r) (hOA : IsA kd rf o 12) (ho : o < b ∨ b + 25 ≤ o) (hL : ∀ q, q < L.length → M o q = ((L.getD q 0 : Nat) : Int)) (hLn : L.length < 12) (hLm : ∀ q, q < L.length → L.getD q 0 < nC r) (hsort : SortK (tk r) L) (hj : j < nC r) (hxm : ∀ q, q < L.length → 0 < fC r (L.getD q 0) 4) (hxj : 0 < fC r j 4) : CtV l D Bs yX4_insert cX4_insert 6 none 4 [.ref b, .ref o, vi (L.length : Int), vi (j : Int), vi 1] sz kd rf M (fun M' => (∀ q, q < L.length + 1 → M' o q = (((insK (tk r) j L).getD q 0 : Nat) : Int)) ∧ ∀ a, a ≠ o → M' a = M a) := by
  refine Ctr.of (yv_X4_insert.1.2.2.2.2) (List.forall_mem_cons.mpr ⟨rfl, List.forall_mem_cons.mpr ⟨rfl, List.forall_mem_cons.mpr ⟨rfl, List.forall_mem_cons.mpr ⟨rfl, List.forall_mem_cons.mpr ⟨rfl, fun _ h => absurd h List.not_mem_nil⟩⟩⟩⟩⟩) (Nat.le_of_ble_eq_true rfl) [some (.ref b), some (.ref o), some (vi (L.length : Int)), some (vi (j : Int)), some (vi 1), none] rfl ?_
  intro p e s m args below meth c X hin
  obtain ⟨n6, n6b⟩ := hV.n6
  obtain ⟨n7, n7b⟩ := hV.n7
  have L3 : ∀ (k : Nat) (M1 : xM), k ≤ L.length → (∀ q, q < k → M1 o q = ((L.getD q 0 : Nat) : Int)) → (∀ q, k ≤ q → q < L.length → M1 o (q + 1) = ((L.getD q 0 : Nat) : Int)) → (∀ q, k ≤ q → q < L.length → tk r (L.getD q 0) < tk r j) → (∀ a, a ≠ o → M1 a = M a) → G p l e (rmd 4) s m args below meth c D Bs 6 0 0 (MQ below (xQ D Bs (pV sz kd rf (fun M' => (∀ q, q < L.length + 1 → M' o q = (((insK (tk r) j L).getD q 0 : Nat) : Int)) ∧ ∀ a, a ≠ o → M' a = M a))) args s 0 0 (fun q => Bs ≤ q)) sz kd rf (M1) 3 [some (.ref b), some (.ref o), some (vi (L.length : Int)), some (vi (j : Int)), some (vi 1), some (vi (k : Int))] [] := by
    intro k
    induction k with
    | zero =>
      intro M1 hk hA hB hK hO
      have hM1 : St M1 b r := hM.off ⟨n6b, n7b⟩ (fun a h1 h2 => hO a (by omega))
      refine G.iload X 5 dX4_insert_3 rfl rfl ?_
      refine G.if_le X 40 8 dX4_insert_5 (by decide) rfl (by omega) (fun hc5 => ?_) (fun hc5 => ?_)
      · refine G.aload_n X 41 dX4_insert_40 rfl rfl ?_
        refine G.iload X 43 dX4_insert_41 rfl rfl ?_
        refine G.iload_n X 44 dX4_insert_43 rfl rfl ?_
        refine G.iast X (i := 0) 45 dX4_insert_44 rfl (hOA).1 ((hOA).2 _) rfl (by omega) (by decide) ?_
        refine G.vret X dX4_insert_45 ⟨Nat.le_refl _, Nat.le_refl _⟩ ⟨rfl, rfl, rfl, rfl, ?_⟩
        refine ⟨fun q hq => ?_, fun a ha => (ms_ne ha).trans (hO a ha)⟩
        have e : mu M1 o 0 (j : Int) o q = fu (M1 o) 0 (j : Int) q := by
          show ms M1 o (fu (M1 o) 0 (j : Int)) o q = _
          rw [ms_same]
        rw [e]
        exact ins_done (by omega) hsort hA hB (fun h => hK _ (Nat.le_refl _) h) (Or.inl rfl) q hq
      · exfalso; omega
    | succ k ih =>
      intro M1 hk hA hB hK hO
      have hM1 : St M1 b r := hM.off ⟨n6b, n7b⟩ (fun a h1 h2 => hO a (by omega))
      refine G.iload X 5 dX4_insert_3 rfl rfl ?_
      refine G.if_le X 40 8 dX4_insert_5 (by decide) rfl (by omega) (fun hc5 => ?_) (fun hc5 => ?_)
      · exfalso; omega
      · refine G.aload_n X 9 dX4_insert_8 rfl rfl ?_
        refine G.iload_n X 10 dX4_insert_9 rfl rfl ?_
        refine G.aload_n X 11 dX4_insert_10 rfl rfl ?_
        refine G.iload X 13 dX4_insert_11 rfl rfl ?_
        refine G.iconst X 14 dX4_insert_13 rfl ?_
        refine G.isub X 15 dX4_insert_14 rfl ?_
        refine G.iald X (i := k) 16 dX4_insert_15 rfl (hOA).1 ((hOA).2 _) (by omega) (by omega) (by decide) ?_
        rw [hA k (by omega)]
        refine G.iload X 18 dX4_insert_16 rfl rfl ?_
        refine G.vI3 (d := 3) X ml_X4_122 yv_X4_isAhead 21 dX4_insert_18 rfl (c_X4_isAhead1 l D Bs _ kd rf _ _ _ _ _ (hS) hV hM1 hj (hLm k (by omega)) hxj (hxm k (by omega))) ⟨_, _, (hS).1, rfl, rfl⟩ (by decide) ⟨Nat.zero_le _, Nat.zero_le _⟩ (Nat.le_of_ble_eq_true rfl) (fun r18 M18 h18 => ?_)
        obtain ⟨hr18, hm18⟩ := h18
        subst hr18
        obtain rfl := hm18.symm
        refine G.ifb_eq X 40 24 dX4_insert_21 (by decide) rfl (fun hc21 => ?_) (fun hc21 => ?_)
        · refine G.aload_n X 41 dX4_insert_40 rfl rfl ?_
          refine G.iload X 43 dX4_insert_41 rfl rfl ?_
          refine G.iload_n X 44 dX4_insert_43 rfl rfl ?_
          refine G.iast X (i := (k + 1)) 45 dX4_insert_44 rfl (hOA).1 ((hOA).2 _) rfl (by omega) (by decide) ?_
          refine G.vret X dX4_insert_45 ⟨Nat.le_refl _, Nat.le_refl _⟩ ⟨rfl, rfl, rfl, rfl, ?_⟩
          refine ⟨fun q hq => ?_, fun a ha => (ms_ne ha).trans (hO a ha)⟩
          have e : mu M1 o (k + 1) (j : Int) o q = fu (M1 o) (k + 1) (j : Int) q := by
            show ms M1 o (fu (M1 o) (k + 1) (j : Int)) o q = _
            rw [ms_same]
          rw [e]
          exact ins_done (by omega) hsort hA hB (fun h => hK _ (Nat.le_refl _) h) (Or.inr hc21) q hq
        · refine G.aload_n X 25 dX4_insert_24 rfl rfl ?_
          refine G.iload X 27 dX4_insert_25 rfl rfl ?_
          refine G.aload_n X 28 dX4_insert_27 rfl rfl ?_
          refine G.iload X 30 dX4_insert_28 rfl rfl ?_
          refine G.iconst X 31 dX4_insert_30 rfl ?_
          refine G.isub X 32 dX4_insert_31 rfl ?_
          refine G.iald X (i := k) 33 dX4_insert_32 rfl (hOA).1 ((hOA).2 _) (by omega) (by omega) (by decide) ?_
          refine G.iast X (i := (k + 1)) 34 dX4_insert_33 rfl (hOA).1 ((hOA).2 _) rfl (by omega) (by decide) ?_
          refine G.iinc (ls' := [_, _, _, _, _, _]) X 37 dX4_insert_34 rfl rfl (by decide) rfl ?_
          rw [show ((k + 1 : Nat) : Int) + -1 = (k : Int) by omega]
          refine G.goto X 3 dX4_insert_37 (by decide) ?_
          refine ih _ (by omega) (fun q hq => ?_) (fun q h1 h2 => ?_) (fun q h1 h2 => ?_) (fun a ha => (ms_ne ha).trans (hO a ha))
          · rw [mu_ne (Or.inr (by omega))]
            exact hA q (by omega)
          · by_cases e : q = k
            · subst e
              rw [mu_same]
              exact hA q (by omega)
            · rw [mu_ne (Or.inr (by omega))]
              exact hB q (by omega) h2
          · by_cases e : q = k
            · subst e
              exact hc21
            · exact hK q (by omega) h2
  refine G.iload_n X 1 dX4_insert_0 rfl rfl ?_
  refine G.istore (ls' := [_, _, _, _, _, _]) X 3 dX4_insert_1 rfl (by decide) rfl ?_
  exact L3 L.length M (Nat.le_refl _) hL (fun q h1 h2 => absurd h2 (by omega)) (fun q h1 h2 => absurd h2 (by omega)) (fun a _ => rfl)
theorem hasB_iff {r : xR} {s : Nat} : hasB r s = true ↔ 0 < fC r s 4 := by
  unfold hasB
  exact decide_eq_true_iff
set_option maxHeartbeats 4000000 in
set_option maxRecDepth 100000 in
theorem c_X4_listOpen (l : Launch) (D : xD) (Bs sz : Nat) (kd : xKd) (rf : xRf) (M : xM) (b o : Nat) (r : xR) (hS : ShSt kd rf b) (hV : Vk r) (hM : St M b r) (hOA : IsA kd rf o 12) (ho : o < b ∨ b + 25 ≤ o) : CtI l D Bs yX4_listOpen cX4_listOpen 4 (some .int) 5 [.ref b, .ref o] sz kd rf M (fun q M' => q = (needL r).length ∧ (∀ q, q < (needL r).length → M' o q = (((needL r).getD q 0 : Nat) : Int)) ∧ ∀ a, a ≠ o → M' a = M a) := by
  refine Ctr.of (yv_X4_listOpen.1.2.2.2.2) (List.forall_mem_cons.mpr ⟨rfl, List.forall_mem_cons.mpr ⟨rfl, fun _ h => absurd h List.not_mem_nil⟩⟩) (Nat.le_of_ble_eq_true rfl) [some (.ref b), some (.ref o), none, none] rfl ?_
  intro p e s m args below meth c X hin
  obtain ⟨n6, n6b⟩ := hV.n6
  obtain ⟨n7, n7b⟩ := hV.n7
  obtain ⟨hb0, -, -, -, -, -, -, -, hb8⟩ := hM.1
  obtain ⟨hv0, -, -, -, -, -⟩ := hV.1
  have L4 : ∀ (k : Nat) (i : Nat) (M1 : xM), i + k = nC r → (∀ q, q < (sortK (nk r) (openB r) i).length → M1 o q = (((sortK (nk r) (openB r) i).getD q 0 : Nat) : Int)) → (∀ a, a ≠ o → M1 a = M a) → G p l e (rmd 5) s m args below meth c D Bs 4 0 0 (MQ below (xQ D Bs (pI sz kd rf (fun q M' => q = (needL r).length ∧ (∀ q, q < (needL r).length → M' o q = (((needL r).getD q 0 : Nat) : Int)) ∧ ∀ a, a ≠ o → M' a = M a))) args s 0 0 (fun q => Bs ≤ q)) sz kd rf (M1) 4 [some (.ref b), some (.ref o), some (vi ((sortK (nk r) (openB r) i).length : Int)), some (vi (i : Int))] [] := by
    intro k
    induction k with
    | zero =>
      intro i M1 hik hR hO
      have hM1 : St M1 b r := hM.off ⟨n6b, n7b⟩ (fun a h1 h2 => hO a (by omega))
      obtain ⟨hd0, -, -, -, -, -, -, -, hd8⟩ := hM1.1
      have hlen := sortK_len (nk r) (openB r) i
      have hcl := cntN_le (openB r) i
      have hmem : ∀ q, q < (sortK (nk r) (openB r) i).length → (sortK (nk r) (openB r) i).getD q 0 < i ∧ openB r ((sortK (nk r) (openB r) i).getD q 0) = true := fun q hq => sortK_mem.mp (by rw [show (sortK (nk r) (openB r) i).getD q 0 = (sortK (nk r) (openB r) i)[q] by simp [List.getD_eq_getElem?_getD, hq]]; exact List.getElem_mem hq)
      obtain rfl : i = nC r := by omega
      refine G.iload_n X 5 dX4_listOpen_4 rfl rfl ?_
      refine G.aload_n X 6 dX4_listOpen_5 rfl rfl ?_
      refine G.getI X fl_X4_50 9 dX4_listOpen_6 rfl (hS).1 ((hS).2.1 8 (by decide)) ?_
      refine G.icmp_ge X 45 12 dX4_listOpen_9 (by decide) rfl (by omega) (by omega) (fun hc9 => ?_) (fun hc9 => ?_)
      · refine G.iload_n X 46 dX4_listOpen_45 rfl rfl ?_
        refine G.iret X dX4_listOpen_46 ⟨Nat.le_refl _, Nat.le_refl _⟩ ⟨rfl, rfl, rfl, _, rfl, ?_⟩
        exact ⟨rfl, hR, hO⟩
      · exfalso; omega
    | succ k ih =>
      intro i M1 hik hR hO
      have hM1 : St M1 b r := hM.off ⟨n6b, n7b⟩ (fun a h1 h2 => hO a (by omega))
      obtain ⟨hd0, -, -, -, -, -, -, -, hd8⟩ := hM1.1
      have hlen := sortK_len (nk r) (openB r) i
      have hcl := cntN_le (openB r) i
      have hmem : ∀ q, q < (sortK (nk r) (openB r) i).length → (sortK (nk r) (openB r) i).getD q 0 < i ∧ openB r ((sortK (nk r) (openB r) i).getD q 0) = true := fun q hq => sortK_mem.mp (by rw [show (sortK (nk r) (openB r) i).getD q 0 = (sortK (nk r) (openB r) i)[q] by simp [List.getD_eq_getElem?_getD, hq]]; exact List.getElem_mem hq)
      obtain ⟨-, -, c2, c3, -, -, -, -, -⟩ := hM1.2.2 (i) (by omega)
      obtain ⟨-, -, w2, w3, -, -, -⟩ := hV.2.2 (i) (by omega)
      refine G.iload_n X 5 dX4_listOpen_4 rfl rfl ?_
      refine G.aload_n X 6 dX4_listOpen_5 rfl rfl ?_
      refine G.getI X fl_X4_50 9 dX4_listOpen_6 rfl (hS).1 ((hS).2.1 8 (by decide)) ?_
      refine G.icmp_ge X 45 12 dX4_listOpen_9 (by decide) rfl (by omega) (by omega) (fun hc9 => ?_) (fun hc9 => ?_)
      · exfalso; omega
      · refine G.aload_n X 13 dX4_listOpen_12 rfl rfl ?_
        refine G.getR X fl_X4_26 16 dX4_listOpen_13 rfl (hS).1 (hS).2.2.2.1 ?_
        refine G.iload_n X 17 dX4_listOpen_16 rfl rfl ?_
        refine G.aald X 18 dX4_listOpen_17 rfl (ShSt.kc hS) (by decide) (ShSt.rc hS (by omega)) rfl (by omega) (by decide) ?_
        refine G.aload_n X 19 dX4_listOpen_18 rfl rfl ?_
        refine G.getI X fl_X4_32 22 dX4_listOpen_19 rfl (hS).1 ((hS).2.1 0 (by decide)) ?_
        refine G.vI1 (d := 0) X ml_X4_115 yv_X0_isOpenIn 25 dX4_listOpen_22 rfl (c_X0_isOpenIn l D Bs _ kd rf _ _ _ (ShSt.c hS (by omega)) (by omega) (by omega) (by omega)) ⟨_, _, (ShSt.c hS (by omega)).1, rfl, rfl⟩ (by decide) ⟨Nat.zero_le _, Nat.zero_le _⟩ (Nat.le_of_ble_eq_true rfl) (fun r22 M22 h22 => ?_)
        obtain ⟨hr22, hm22⟩ := h22
        subst hr22
        obtain rfl := hm22.symm
        refine G.ifb_eq X 39 28 dX4_listOpen_25 (by decide) rfl (fun hc25 => ?_) (fun hc25 => ?_)
        · refine G.iinc (ls' := [_, _, _, _]) X 42 dX4_listOpen_39 rfl rfl (by decide) rfl ?_
          refine G.goto X 4 dX4_listOpen_42 (by decide) ?_
          first
            | (have e : sortK (nk r) (openB r) (i + 1) = insK (nk r) i (sortK (nk r) (openB r) i) := by rw [sortK_s, if_pos (openB_iff.mpr (by omega))]
               refine G.eqv (ls' := [some (.ref b), some (.ref o), some (vi ((sortK (nk r) (openB r) (i + 1)).length : Int)), some (vi ((i + 1 : Nat) : Int))]) (by rw [e, insK_len]; rfl) rfl ?_
               refine ih (i + 1) _ (by omega) (fun q hq => ?_) (fun a ha => (h33.2 a ha).trans (hO a ha))
               rw [e]
               exact h33.1 q (by rw [e, insK_len] at hq; exact hq))
            | (have e : sortK (nk r) (openB r) (i + 1) = sortK (nk r) (openB r) i := by rw [sortK_s, if_neg (fun q => by have := openB_iff.mp q; omega)]
               refine G.eqv (ls' := [some (.ref b), some (.ref o), some (vi ((sortK (nk r) (openB r) (i + 1)).length : Int)), some (vi ((i + 1 : Nat) : Int))]) (by rw [e]; rfl) rfl ?_
               refine ih (i + 1) _ (by omega) (fun q hq => ?_) hO
               rw [e]
               exact hR q (by rw [e] at hq; exact hq))
        · refine G.aload_n X 29 dX4_listOpen_28 rfl rfl ?_
          refine G.aload_n X 30 dX4_listOpen_29 rfl rfl ?_
          refine G.iload_n X 31 dX4_listOpen_30 rfl rfl ?_
          refine G.iload_n X 32 dX4_listOpen_31 rfl rfl ?_
          refine G.iconst X 33 dX4_listOpen_32 rfl ?_
          refine G.vV4 (d := 4) X ml_X4_118 yv_X4_insert 36 dX4_listOpen_33 rfl (c_X4_insert0 l D Bs _ kd rf _ b o i (sortK (nk r) (openB r) i) r (hS) hV hM1 hOA ho hR (by omega) (fun q hq => by have := (hmem q hq).1; omega) (sortK_sort _ _ _) (by omega)) ⟨_, _, (hS).1, rfl, rfl⟩ (by decide) ⟨Nat.zero_le _, Nat.zero_le _⟩ (Nat.le_of_ble_eq_true rfl) (fun M33 h33 => ?_)
          refine G.iinc (ls' := [_, _, _, _]) X 39 dX4_listOpen_36 rfl rfl (by decide) rfl ?_
          refine G.iinc (ls' := [_, _, _, _]) X 42 dX4_listOpen_39 rfl rfl (by decide) rfl ?_
          refine G.goto X 4 dX4_listOpen_42 (by decide) ?_
          first
            | (have e : sortK (nk r) (openB r) (i + 1) = insK (nk r) i (sortK (nk r) (openB r) i) := by rw [sortK_s, if_pos (openB_iff.mpr (by omega))]
               refine G.eqv (ls' := [some (.ref b), some (.ref o), some (vi ((sortK (nk r) (openB r) (i + 1)).length : Int)), some (vi ((i + 1 : Nat) : Int))]) (by rw [e, insK_len]; rfl) rfl ?_
               refine ih (i + 1) _ (by omega) (fun q hq => ?_) (fun a ha => (h33.2 a ha).trans (hO a ha))
               rw [e]
               exact h33.1 q (by rw [e, insK_len] at hq; exact hq))
            | (have e : sortK (nk r) (openB r) (i + 1) = sortK (nk r) (openB r) i := by rw [sortK_s, if_neg (fun q => by have := openB_iff.mp q; omega)]
               refine G.eqv (ls' := [some (.ref b), some (.ref o), some (vi ((sortK (nk r) (openB r) (i + 1)).length : Int)), some (vi ((i + 1 : Nat) : Int))]) (by rw [e]; rfl) rfl ?_
               refine ih (i + 1) _ (by omega) (fun q hq => ?_) hO
               rw [e]
               exact hR q (by rw [e] at hq; exact hq))
  refine G.iconst X 1 dX4_listOpen_0 rfl ?_
  refine G.istore_n (ls' := [_, _, _, _]) X 2 dX4_listOpen_1 rfl (by decide) rfl ?_
  refine G.iconst X 3 dX4_listOpen_2 rfl ?_
  refine G.istore_n (ls' := [_, _, _, _]) X 4 dX4_listOpen_3 rfl (by decide) rfl ?_
  exact L4 (nC r) 0 M (by omega) (fun q hq => absurd hq (Nat.not_lt_zero q)) (fun a _ => rfl)
set_option maxHeartbeats 4000000 in
set_option maxRecDepth 100000 in
theorem c_X4_listSupplied (l : Launch) (D : xD) (Bs sz : Nat) (kd : xKd) (rf : xRf) (M : xM) (b o : Nat) (r : xR) (hS : ShSt kd rf b) (hV : Vk r) (hM : St M b r) (hOA : IsA kd rf o 12) (ho : o < b ∨ b + 25 ≤ o) : CtI l D Bs yX4_listSupplied cX4_listSupplied 4 (some .int) 5 [.ref b, .ref o] sz kd rf M (fun q M' => q = (thirL r).length ∧ (∀ q, q < (thirL r).length → M' o q = (((thirL r).getD q 0 : Nat) : Int)) ∧ ∀ a, a ≠ o → M' a = M a) := by
  refine Ctr.of (yv_X4_listSupplied.1.2.2.2.2) (List.forall_mem_cons.mpr ⟨rfl, List.forall_mem_cons.mpr ⟨rfl, fun _ h => absurd h List.not_mem_nil⟩⟩) (Nat.le_of_ble_eq_true rfl) [some (.ref b), some (.ref o), none, none] rfl ?_
  intro p e s m args below meth c X hin
  obtain ⟨n6, n6b⟩ := hV.n6
  obtain ⟨n7, n7b⟩ := hV.n7
  obtain ⟨hb0, -, -, -, -, -, -, -, hb8⟩ := hM.1
  obtain ⟨hv0, -, -, -, -, -⟩ := hV.1
  have L4 : ∀ (k : Nat) (i : Nat) (M1 : xM), i + k = nC r → (∀ q, q < (sortK (tk r) (hasB r) i).length → M1 o q = (((sortK (tk r) (hasB r) i).getD q 0 : Nat) : Int)) → (∀ a, a ≠ o → M1 a = M a) → G p l e (rmd 5) s m args below meth c D Bs 4 0 0 (MQ below (xQ D Bs (pI sz kd rf (fun q M' => q = (thirL r).length ∧ (∀ q, q < (thirL r).length → M' o q = (((thirL r).getD q 0 : Nat) : Int)) ∧ ∀ a, a ≠ o → M' a = M a))) args s 0 0 (fun q => Bs ≤ q)) sz kd rf (M1) 4 [some (.ref b), some (.ref o), some (vi ((sortK (tk r) (hasB r) i).length : Int)), some (vi (i : Int))] [] := by
    intro k
    induction k with
    | zero =>
      intro i M1 hik hR hO
      have hM1 : St M1 b r := hM.off ⟨n6b, n7b⟩ (fun a h1 h2 => hO a (by omega))
      obtain ⟨hd0, -, -, -, -, -, -, -, hd8⟩ := hM1.1
      have hlen := sortK_len (tk r) (hasB r) i
      have hcl := cntN_le (hasB r) i
      have hmem : ∀ q, q < (sortK (tk r) (hasB r) i).length → (sortK (tk r) (hasB r) i).getD q 0 < i ∧ hasB r ((sortK (tk r) (hasB r) i).getD q 0) = true := fun q hq => sortK_mem.mp (by rw [show (sortK (tk r) (hasB r) i).getD q 0 = (sortK (tk r) (hasB r) i)[q] by simp [List.getD_eq_getElem?_getD, hq]]; exact List.getElem_mem hq)
      obtain rfl : i = nC r := by omega
      refine G.iload_n X 5 dX4_listSupplied_4 rfl rfl ?_
      refine G.aload_n X 6 dX4_listSupplied_5 rfl rfl ?_
      refine G.getI X fl_X4_50 9 dX4_listSupplied_6 rfl (hS).1 ((hS).2.1 8 (by decide)) ?_
      refine G.icmp_ge X 43 12 dX4_listSupplied_9 (by decide) rfl (by omega) (by omega) (fun hc9 => ?_) (fun hc9 => ?_)
      · refine G.iload_n X 44 dX4_listSupplied_43 rfl rfl ?_
        refine G.iret X dX4_listSupplied_44 ⟨Nat.le_refl _, Nat.le_refl _⟩ ⟨rfl, rfl, rfl, _, rfl, ?_⟩
        exact ⟨rfl, hR, hO⟩
      · exfalso; omega
    | succ k ih =>
      intro i M1 hik hR hO
      have hM1 : St M1 b r := hM.off ⟨n6b, n7b⟩ (fun a h1 h2 => hO a (by omega))
      obtain ⟨hd0, -, -, -, -, -, -, -, hd8⟩ := hM1.1
      have hlen := sortK_len (tk r) (hasB r) i
      have hcl := cntN_le (hasB r) i
      have hmem : ∀ q, q < (sortK (tk r) (hasB r) i).length → (sortK (tk r) (hasB r) i).getD q 0 < i ∧ hasB r ((sortK (tk r) (hasB r) i).getD q 0) = true := fun q hq => sortK_mem.mp (by rw [show (sortK (tk r) (hasB r) i).getD q 0 = (sortK (tk r) (hasB r) i)[q] by simp [List.getD_eq_getElem?_getD, hq]]; exact List.getElem_mem hq)
      obtain ⟨-, -, -, -, c4, -, -, -, -⟩ := hM1.2.2 (i) (by omega)
      obtain ⟨-, -, -, -, w4, -, -⟩ := hV.2.2 (i) (by omega)
      refine G.iload_n X 5 dX4_listSupplied_4 rfl rfl ?_
      refine G.aload_n X 6 dX4_listSupplied_5 rfl rfl ?_
      refine G.getI X fl_X4_50 9 dX4_listSupplied_6 rfl (hS).1 ((hS).2.1 8 (by decide)) ?_
      refine G.icmp_ge X 43 12 dX4_listSupplied_9 (by decide) rfl (by omega) (by omega) (fun hc9 => ?_) (fun hc9 => ?_)
      · exfalso; omega
      · refine G.aload_n X 13 dX4_listSupplied_12 rfl rfl ?_
        refine G.getR X fl_X4_26 16 dX4_listSupplied_13 rfl (hS).1 (hS).2.2.2.1 ?_
        refine G.iload_n X 17 dX4_listSupplied_16 rfl rfl ?_
        refine G.aald X 18 dX4_listSupplied_17 rfl (ShSt.kc hS) (by decide) (ShSt.rc hS (by omega)) rfl (by omega) (by decide) ?_
        refine G.getI X fl_X4_90 21 dX4_listSupplied_18 rfl (ShSt.c hS (by omega)).1 ((ShSt.c hS (by omega)).2 4) ?_
        refine G.bipush X 23 dX4_listSupplied_21 rfl (by decide) ?_
        refine G.icmp_eq X 37 26 dX4_listSupplied_23 (by decide) rfl (by omega) (by omega) (fun hc23 => ?_) (fun hc23 => ?_)
        · refine G.iinc (ls' := [_, _, _, _]) X 40 dX4_listSupplied_37 rfl rfl (by decide) rfl ?_
          refine G.goto X 4 dX4_listSupplied_40 (by decide) ?_
          first
            | (have e : sortK (tk r) (hasB r) (i + 1) = insK (tk r) i (sortK (tk r) (hasB r) i) := by rw [sortK_s, if_pos (hasB_iff.mpr (by omega))]
               refine G.eqv (ls' := [some (.ref b), some (.ref o), some (vi ((sortK (tk r) (hasB r) (i + 1)).length : Int)), some (vi ((i + 1 : Nat) : Int))]) (by rw [e, insK_len]; rfl) rfl ?_
               refine ih (i + 1) _ (by omega) (fun q hq => ?_) (fun a ha => (h31.2 a ha).trans (hO a ha))
               rw [e]
               exact h31.1 q (by rw [e, insK_len] at hq; exact hq))
            | (have e : sortK (tk r) (hasB r) (i + 1) = sortK (tk r) (hasB r) i := by rw [sortK_s, if_neg (fun q => by have := hasB_iff.mp q; omega)]
               refine G.eqv (ls' := [some (.ref b), some (.ref o), some (vi ((sortK (tk r) (hasB r) (i + 1)).length : Int)), some (vi ((i + 1 : Nat) : Int))]) (by rw [e]; rfl) rfl ?_
               refine ih (i + 1) _ (by omega) (fun q hq => ?_) hO
               rw [e]
               exact hR q (by rw [e] at hq; exact hq))
        · refine G.aload_n X 27 dX4_listSupplied_26 rfl rfl ?_
          refine G.aload_n X 28 dX4_listSupplied_27 rfl rfl ?_
          refine G.iload_n X 29 dX4_listSupplied_28 rfl rfl ?_
          refine G.iload_n X 30 dX4_listSupplied_29 rfl rfl ?_
          refine G.iconst X 31 dX4_listSupplied_30 rfl ?_
          refine G.vV4 (d := 4) X ml_X4_118 yv_X4_insert 34 dX4_listSupplied_31 rfl (c_X4_insert1 l D Bs _ kd rf _ b o i (sortK (tk r) (hasB r) i) r (hS) hV hM1 hOA ho hR (by omega) (fun q hq => by have := (hmem q hq).1; omega) (sortK_sort _ _ _) (by omega) (fun q hq => hasB_iff.mp (hmem q hq).2) (by omega)) ⟨_, _, (hS).1, rfl, rfl⟩ (by decide) ⟨Nat.zero_le _, Nat.zero_le _⟩ (Nat.le_of_ble_eq_true rfl) (fun M31 h31 => ?_)
          refine G.iinc (ls' := [_, _, _, _]) X 37 dX4_listSupplied_34 rfl rfl (by decide) rfl ?_
          refine G.iinc (ls' := [_, _, _, _]) X 40 dX4_listSupplied_37 rfl rfl (by decide) rfl ?_
          refine G.goto X 4 dX4_listSupplied_40 (by decide) ?_
          first
            | (have e : sortK (tk r) (hasB r) (i + 1) = insK (tk r) i (sortK (tk r) (hasB r) i) := by rw [sortK_s, if_pos (hasB_iff.mpr (by omega))]
               refine G.eqv (ls' := [some (.ref b), some (.ref o), some (vi ((sortK (tk r) (hasB r) (i + 1)).length : Int)), some (vi ((i + 1 : Nat) : Int))]) (by rw [e, insK_len]; rfl) rfl ?_
               refine ih (i + 1) _ (by omega) (fun q hq => ?_) (fun a ha => (h31.2 a ha).trans (hO a ha))
               rw [e]
               exact h31.1 q (by rw [e, insK_len] at hq; exact hq))
            | (have e : sortK (tk r) (hasB r) (i + 1) = sortK (tk r) (hasB r) i := by rw [sortK_s, if_neg (fun q => by have := hasB_iff.mp q; omega)]
               refine G.eqv (ls' := [some (.ref b), some (.ref o), some (vi ((sortK (tk r) (hasB r) (i + 1)).length : Int)), some (vi ((i + 1 : Nat) : Int))]) (by rw [e]; rfl) rfl ?_
               refine ih (i + 1) _ (by omega) (fun q hq => ?_) hO
               rw [e]
               exact hR q (by rw [e] at hq; exact hq))
  refine G.iconst X 1 dX4_listSupplied_0 rfl ?_
  refine G.istore_n (ls' := [_, _, _, _]) X 2 dX4_listSupplied_1 rfl (by decide) rfl ?_
  refine G.iconst X 3 dX4_listSupplied_2 rfl ?_
  refine G.istore_n (ls' := [_, _, _, _]) X 4 dX4_listSupplied_3 rfl (by decide) rfl ?_
  exact L4 (nC r) 0 M (by omega) (fun q hq => absurd hq (Nat.not_lt_zero q)) (fun a _ => rfl)
end
section
/-! that hours keep the numbers in their bounds -/
theorem sumN_congr {f g : Nat → Int} : ∀ n, (∀ i, i < n → g i = f i) → sumN g n = sumN f n
  | 0, _ => rfl
  | n + 1, h => by rw [sumN_s, sumN_s, sumN_congr n (fun i hi => h i (by omega)), h n (by omega)]
theorem sumN_upd {f g : Nat → Int} {s : Nat} {x : Int} : ∀ n, s < n → (∀ i, i < n → g i = if i = s then f i + x else f i) → sumN g n = sumN f n + x
  | 0, hs, _ => by omega
  | n + 1, hs, h => by
    rw [sumN_s, sumN_s]
    have hn := h n (by omega)
    by_cases e : s = n
    · subst e
      rw [if_pos rfl] at hn
      rw [sumN_congr s (fun i hi => by rw [h i (by omega), if_neg (by omega)]), hn]
      omega
    · rw [if_neg (by omega)] at hn
      rw [sumN_upd n (by omega) (fun i hi => h i (by omega)), hn]
      omega
def Sums (r : xR) : Prop := r 8 = sumN (fun i => fC r i 5) (nC r) ∧ r 9 = sumN (fun i => fC r i 6) (nC r) ∧ r 10 = sumN (fun i => fC r i 7) (nC r)
/-- a state's row is in order -/
def Vr (r : xR) : Prop := Vb r (12 * r 0) (12 * r 0) ∧ Sums r
theorem causeR_0 {r : xR} {s : Nat} (h : causeR r s = 0) : fC r s 4 ≠ 0 ∧ (fS r (hasN r s) 6 = 1 ∨ ¬ fS r (hasN r s) 4 < fS r (hasN r s) 2) := by
  unfold causeR at h
  by_cases h4 : fC r s 4 = 0
  · rw [if_pos h4] at h
    omega
  · rw [if_neg h4] at h
    refine ⟨h4, ?_⟩
    unfold caF at h
    by_cases h6 : fS r (hasN r s) 6 = 1
    · exact Or.inl h6
    · rw [if_neg h6] at h
      by_cases hf : fS r (hasN r s) 4 < fS r (hasN r s) 2
      · rw [if_pos hf] at h
        omega
      · exact Or.inr hf
theorem Vb.lit {r : xR} {w : Int} {s : Nat} (h : Vb r w w) (hs : s < nC r) (hc : causeR r s = 0) : Vb (litR r s) w w := by
  obtain ⟨n6, n6b⟩ := h.n6
  obtain ⟨n7, n7b⟩ := h.n7
  obtain ⟨h4, hrun⟩ := causeR_0 hc
  have v4 := (h.2.2 s hs).2.2.2.2.1
  obtain ⟨hm, hme⟩ := hasN_lt h hs (by omega)
  have e0 : ∀ k, k < 16 → k ≠ 8 → k ≠ 10 → k ≠ 4 → litR r s k = r k := fun k hk h8 h10 h4 => by rw [litR_0 hk, if_neg h8, if_neg h10, if_neg h4]
  have eS : nS (litR r s) = nS r := nS_of (e0 6 (by decide) (by decide) (by decide) (by decide))
  have eC : nC (litR r s) = nC r := nC_of (e0 7 (by decide) (by decide) (by decide) (by decide))
  refine ⟨?_, fun i hi => ?_, fun i hi => ?_⟩
  · rw [e0 0 (by decide) (by decide) (by decide) (by decide), e0 1 (by decide) (by decide) (by decide) (by decide), e0 2 (by decide) (by decide) (by decide) (by decide), e0 3 (by decide) (by decide) (by decide) (by decide), e0 6 (by decide) (by decide) (by decide) (by decide), e0 7 (by decide) (by decide) (by decide) (by decide)]
    exact h.1
  · rw [eS] at hi
    have g := h.2.1 i hi
    have e : ∀ k, k < 10 → fS (litR r s) i k = if i = hasN r s ∧ k = 6 then bi (fS r (hasN r s) 2 ≤ fS r (hasN r s) 4 - fS r (hasN r s) 2) else if i = hasN r s ∧ k = 8 then fS r (hasN r s) 8 + 1 else if i = hasN r s ∧ k = 4 then fS r (hasN r s) 4 - fS r (hasN r s) 2 else fS r i k := fun k hk => litR_S (by omega) hk
    unfold Vset at g ⊢
    rw [e 0 (by decide), e 1 (by decide), e 2 (by decide), e 3 (by decide), e 4 (by decide), e 5 (by decide), e 6 (by decide), e 7 (by decide), e0 7 (by decide) (by decide) (by decide) (by decide)]
    by_cases him : i = hasN r s
    · rw [← him] at hrun ⊢
      simp only [true_and, Nat.reduceEqDiff, if_false, if_true]
      by_cases hb : fS r i 2 ≤ fS r i 4 - fS r i 2
      · rw [bi_t hb]
        omega
      · rw [bi_f hb]
        omega
    · simp only [him, false_and, if_false]
      exact g
  · rw [eC] at hi
    have g := h.2.2 i hi
    have e : ∀ k, k < 10 → fC (litR r s) i k = if i = s ∧ k = 7 then fC r s 7 + fS r (hasN r s) 0 * r 2 else if i = s ∧ k = 5 then fC r s 5 + 1 else fC r i k := fun k hk => litR_C (by omega) hk
    unfold Vsite at g ⊢
    rw [e 0 (by decide), e 1 (by decide), e 2 (by decide), e 3 (by decide), e 4 (by decide), e 6 (by decide), e 8 (by decide), e0 6 (by decide) (by decide) (by decide) (by decide)]
    simp only [Nat.reduceEqDiff, and_false, if_false]
    exact g
theorem Vb.dark {r : xR} {w : Int} {s : Nat} (h : Vb r w w) (hs : s < nC r) : Vb (darkR r s (causeR r s)) (w + 1) (w + 1) := by
  obtain ⟨n6, n6b⟩ := h.n6
  obtain ⟨n7, n7b⟩ := h.n7
  have hcr := causeR_rng r s
  have v4 := (h.2.2 s hs).2.2.2.2.1
  have hm : causeR r s = 3 → hasN r s < nS r := by
    intro h3
    by_cases h4 : fC r s 4 = 0
    · unfold causeR at h3
      rw [if_pos h4] at h3
      omega
    · exact (hasN_lt h hs (by omega)).1
  generalize causeR r s = c at hcr hm ⊢
  have e0 : ∀ k, k < 16 → k ≠ 11 → k ≠ 9 → darkR r s c k = r k := fun k hk h11 h9 => by rw [darkR_0 hk, if_neg h11, if_neg h9]
  have eS : nS (darkR r s c) = nS r := nS_of (e0 6 (by decide) (by decide) (by decide))
  have eC : nC (darkR r s c) = nC r := nC_of (e0 7 (by decide) (by decide) (by decide))
  refine ⟨?_, fun i hi => ?_, fun i hi => ?_⟩
  · rw [e0 0 (by decide) (by decide) (by decide), e0 1 (by decide) (by decide) (by decide), e0 2 (by decide) (by decide) (by decide), e0 3 (by decide) (by decide) (by decide), e0 6 (by decide) (by decide) (by decide), e0 7 (by decide) (by decide) (by decide)]
    exact h.1
  · rw [eS] at hi
    have g := h.2.1 i hi
    have e : ∀ k, k < 10 → fS (darkR r s c) i k = if c = 3 ∧ i = hasN r s ∧ k = 7 then fS r (hasN r s) 7 + 1 else fS r i k := fun k hk => darkR_S (by omega) hk
    unfold Vset at g ⊢
    rw [e 0 (by decide), e 1 (by decide), e 2 (by decide), e 3 (by decide), e 4 (by decide), e 5 (by decide), e 6 (by decide), e 7 (by decide), e0 7 (by decide) (by decide) (by decide)]
    simp only [Nat.reduceEqDiff, and_false, if_false, and_true]
    by_cases hh : c = 3 ∧ i = hasN r s
    · rw [if_pos hh, ← hh.2]
      omega
    · rw [if_neg hh]
      omega
  · rw [eC] at hi
    have g := h.2.2 i hi
    have e : ∀ k, k < 10 → fC (darkR r s c) i k = if i = s ∧ k = 8 then c else if i = s ∧ k = 6 then fC r s 6 + 1 else fC r i k := fun k hk => darkR_C (fun h3 => by have := hm h3; omega) hk
    unfold Vsite at g ⊢
    rw [e 0 (by decide), e 1 (by decide), e 2 (by decide), e 3 (by decide), e 4 (by decide), e 6 (by decide), e 8 (by decide), e0 6 (by decide) (by decide) (by decide)]
    simp only [Nat.reduceEqDiff, and_false, if_false, and_true]
    by_cases hh : i = s
    · rw [if_pos hh, if_pos hh, ← hh]
      omega
    · rw [if_neg hh, if_neg hh]
      omega
theorem Vb.hr {r : xR} {w : Int} {s : Nat} (h : Vb r w w) (hs : s < nC r) : Vb (hrS r s) (w + 1) (w + 1) := by
  unfold hrS
  split
  · rename_i hc
    exact (h.lit hs hc).mono (by omega) (by omega)
  · exact h.dark hs
theorem Vb.pS {r : xR} {w : Int} (h : Vb r w w) : ∀ n : Nat, n ≤ nC r → Vb (passS r n) (w + n) (w + n)
  | 0, _ => h.mono (by omega) (by omega)
  | n + 1, hn => by
    have ih := Vb.pS h n (by omega)
    rw [passS_s]
    split
    · have := ih.hr (s := n) (by rw [(passS_n r n).2.1]; omega)
      exact this.mono (by omega) (by omega)
    · exact ih.mono (by omega) (by omega)
theorem Vb.up {r : xR} {w : Int} (h : Vb r w w) (h0 : r 0 + 1 ≤ 999) : Vb (upR r) (w + 12) (w + 12) := by
  have hp := h.pS (nC r) (Nat.le_refl _)
  obtain ⟨n7, n7b⟩ := h.n7
  have hp := hp.mono (w' := w + 12) (d' := w + 12) (by omega) (by omega)
  obtain ⟨pS, pC, p0, -⟩ := passS_n r (nC r)
  have e : ∀ i k, fS (upR r) i k = fS (passS r (nC r)) i k := fun i k => by unfold upR; exact fS_fu0 (by decide)
  have f : ∀ i k, fC (upR r) i k = fC (passS r (nC r)) i k := fun i k => by unfold upR; exact fC_fu0 (by decide)
  refine ⟨?_, fun i hi => ?_, fun i hi => ?_⟩
  · rw [upR_0, upR_k r (by decide), upR_k r (by decide), upR_k r (by decide), upR_k r (by decide), upR_k r (by decide)]
    have g := hp.1
    have g0 := h.1
    omega
  · rw [upR_nS, ← pS] at hi
    have g := hp.2.1 i hi
    unfold Vset at g ⊢
    simp only [e]
    rw [upR_k r (by decide)]
    exact g
  · rw [upR_nC, ← pC] at hi
    have g := hp.2.2 i hi
    unfold Vsite at g ⊢
    simp only [f]
    rw [upR_k r (by decide)]
    exact g
theorem Vb.back {r : xR} {w d : Int} {s : Nat} (h : Vb r w d) (hw : 0 ≤ w) (hs : s < nC r) (h4 : 0 < fC r s 4) : Vb (backR r s) w d := by
  obtain ⟨n6, n6b⟩ := h.n6
  obtain ⟨n7, n7b⟩ := h.n7
  obtain ⟨hm, hme⟩ := hasN_lt h hs h4
  have e0 : ∀ k, k < 16 → backR r s k = r k := fun k hk => backR_0 hk
  have eS : nS (backR r s) = nS r := nS_of (e0 6 (by decide))
  have eC : nC (backR r s) = nC r := nC_of (e0 7 (by decide))
  refine ⟨?_, fun i hi => ?_, fun i hi => ?_⟩
  · rw [e0 0 (by decide), e0 1 (by decide), e0 2 (by decide), e0 3 (by decide), e0 6 (by decide), e0 7 (by decide)]
    exact h.1
  · rw [eS] at hi
    have g := h.2.1 i hi
    have e : ∀ k, k < 10 → fS (backR r s) i k = if i = hasN r s ∧ (k = 5 ∨ k = 6 ∨ k = 7) then 0 else fS r i k := fun k hk => backR_S (by omega) hk
    unfold Vset at g ⊢
    rw [e 0 (by decide), e 1 (by decide), e 2 (by decide), e 3 (by decide), e 4 (by decide), e 5 (by decide), e 6 (by decide), e 7 (by decide), e0 7 (by decide)]
    by_cases hh : i = hasN r s
    · subst hh
      simp only [true_and, Nat.reduceEqDiff, or_self, or_false, false_or, or_true, true_or, if_false, if_true]
      omega
    · simp only [hh, false_and, if_false]
      exact g
  · rw [eC] at hi
    have g := h.2.2 i hi
    have e : ∀ k, k < 10 → fC (backR r s) i k = if i = s ∧ k = 4 then 0 else fC r i k := fun k hk => backR_C (by omega) hk
    unfold Vsite at g ⊢
    rw [e 0 (by decide), e 1 (by decide), e 2 (by decide), e 3 (by decide), e 4 (by decide), e 6 (by decide), e 8 (by decide), e0 6 (by decide)]
    simp only [Nat.reduceEqDiff, and_false, if_false, and_true]
    by_cases hh : i = s
    · rw [if_pos hh]
      omega
    · rw [if_neg hh]
      exact g
theorem Vb.pT {r : xR} {w d : Int} (h : Vb r w d) (hw : 0 ≤ w) : ∀ n : Nat, n ≤ nC r → Vb (passT r n) w d
  | 0, _ => h
  | n + 1, hn => by
    have ih := Vb.pT h hw n (by omega)
    rw [passT_s]
    split
    · unfold relR
      split
      · rename_i h4
        exact ih.back hw (by rw [nC_of (passT_n r n 7 (by decide))]; omega) h4
      · exact ih
    · exact ih
theorem Sums.of {r r' : xR} (h : Sums r) (e8 : r' 8 = r 8) (e9 : r' 9 = r 9) (e10 : r' 10 = r 10) (eC : nC r' = nC r) (f5 : ∀ i, i < nC r → fC r' i 5 = fC r i 5) (f6 : ∀ i, i < nC r → fC r' i 6 = fC r i 6) (f7 : ∀ i, i < nC r → fC r' i 7 = fC r i 7) : Sums r' := by
  unfold Sums at h ⊢
  rw [e8, e9, e10, eC, sumN_congr (nC r) f5, sumN_congr (nC r) f6, sumN_congr (nC r) f7]
  exact h
theorem Sums.hr {r : xR} {w : Int} {s : Nat} (hV : Vb r w w) (h : Sums r) (hs : s < nC r) : Sums (hrS r s) := by
  have hn := (hrS_n (r := r) (s := s)).2.1
  obtain ⟨h8, h9, h10⟩ := h
  obtain ⟨n6, n6b⟩ := hV.n6
  have v4 := (hV.2.2 s hs).2.2.2.2.1
  unfold Sums
  rw [hn]
  unfold hrS
  split
  · rename_i hc
    obtain ⟨h4, -⟩ := causeR_0 hc
    obtain ⟨hm, hme⟩ := hasN_lt hV hs (by omega)
    refine ⟨?_, ?_, ?_⟩
    · rw [litR_0 (by decide), if_pos rfl, h8]
      exact (sumN_upd (nC r) hs (fun i hi => by rw [litR_C (by omega) (by decide)]; by_cases e : i = s <;> simp [e])).symm
    · rw [litR_0 (by decide)]
      simp only [Nat.reduceEqDiff, if_false]
      rw [h9]
      exact (sumN_congr (nC r) (fun i hi => by rw [litR_C (by omega) (by decide)]; simp)).symm
    · rw [litR_0 (by decide)]
      simp only [Nat.reduceEqDiff, if_false, if_true]
      rw [h10]
      exact (sumN_upd (nC r) hs (fun i hi => by rw [litR_C (by omega) (by decide)]; by_cases e : i = s <;> simp [e])).symm
  · have hm : causeR r s = 3 → hasN r s < 10 := by
      intro h3
      by_cases h4 : fC r s 4 = 0
      · unfold causeR at h3
        rw [if_pos h4] at h3
        omega
      · have := (hasN_lt hV hs (by omega)).1
        omega
    refine ⟨?_, ?_, ?_⟩
    · rw [darkR_0 (by decide)]
      simp only [Nat.reduceEqDiff, if_false]
      rw [h8]
      exact (sumN_congr (nC r) (fun i hi => by rw [darkR_C hm (by decide)]; simp)).symm
    · rw [darkR_0 (by decide)]
      simp only [Nat.reduceEqDiff, if_false, if_true]
      rw [h9]
      exact (sumN_upd (nC r) hs (fun i hi => by rw [darkR_C hm (by decide)]; by_cases e : i = s <;> simp [e])).symm
    · rw [darkR_0 (by decide)]
      simp only [Nat.reduceEqDiff, if_false]
      rw [h10]
      exact (sumN_congr (nC r) (fun i hi => by rw [darkR_C hm (by decide)]; simp)).symm
theorem Sums.pS {r : xR} {w : Int} (hV : Vb r w w) (h : Sums r) : ∀ n : Nat, n ≤ nC r → Sums (passS r n)
  | 0, _ => h
  | n + 1, hn => by
    have ih := Sums.pS hV h n (by omega)
    have iV := hV.pS n (by omega)
    rw [passS_s]
    split
    · exact ih.hr iV (by rw [(passS_n r n).2.1]; omega)
    · exact ih
theorem Sums.pT {r : xR} {w d : Int} (hV : Vb r w d) (hw : 0 ≤ w) (h : Sums r) : ∀ n : Nat, n ≤ nC r → Sums (passT r n)
  | 0, _ => h
  | n + 1, hn => by
    have ih := Sums.pT hV hw h n (by omega)
    have iV := hV.pT hw n (by omega)
    have eC : nC (passT r n) = nC r := nC_of (passT_n r n 7 (by decide))
    rw [passT_s]
    split
    · unfold relR
      split
      · rename_i h4
        obtain ⟨hm, -⟩ := hasN_lt iV (by rw [eC]; omega) h4
        have n6 := iV.n6
        exact ih.of (backR_0 (by decide)) (backR_0 (by decide)) (backR_0 (by decide)) (nC_of (backR_0 (by decide))) (fun i hi => by rw [backR_C (by omega) (by decide)]; simp) (fun i hi => by rw [backR_C (by omega) (by decide)]; simp) (fun i hi => by rw [backR_C (by omega) (by decide)]; simp)
      · exact ih
    · exact ih
theorem Vr.k {r : xR} (h : Vr r) : Vk r := h.1.mono (by have := h.1.1; omega) (by have := h.1.1; omega)
theorem Vr.pre {r : xR} (h : Vr r) (h0 : r 0 + 1 ≤ 999) : (∀ n, n ≤ nC r → Vk (passS r n)) ∧ ∀ n, n ≤ nC r → Vk (passT (upR r) n) := by
  have hb := h.1.1
  obtain ⟨n7, n7b⟩ := h.1.n7
  refine ⟨fun n hn => (h.1.pS n hn).mono (by omega) (by omega), fun n hn => ?_⟩
  exact ((h.1.up h0).pT (by omega) n (by rw [upR_nC]; exact hn)).mono (by omega) (by omega)
theorem hourR_k (r : xR) {k : Nat} (hk : k < 16) : hourR r k = upR r k := passT_n (upR r) (nC r) k hk
theorem hourR_n (r : xR) : nS (hourR r) = nS r ∧ nC (hourR r) = nC r ∧ hourR r 0 = r 0 + 1 ∧ hourR r 1 = r 1 ∧ hourR r 2 = r 2 ∧ hourR r 3 = r 3 ∧ hourR r 6 = r 6 ∧ hourR r 7 = r 7 := by
  obtain ⟨pS, pC, p0, p1, p2, p3, p6, p7⟩ := passS_n r (nC r)
  have e : ∀ k, k < 16 → k ≠ 0 → hourR r k = passS r (nC r) k := fun k hk h0 => (hourR_k r hk).trans (upR_k r h0)
  have e6 := (e 6 (by decide) (by decide)).trans p6
  have e7 := (e 7 (by decide) (by decide)).trans p7
  exact ⟨nS_of e6, nC_of e7, (hourR_k r (by decide)).trans (upR_0 r), (e 1 (by decide) (by decide)).trans p1, (e 2 (by decide) (by decide)).trans p2, (e 3 (by decide) (by decide)).trans p3, e6, e7⟩
theorem Vr.hour {r : xR} (h : Vr r) (h0 : r 0 + 1 ≤ 999) : Vr (hourR r) := by
  have hb := h.1.1
  obtain ⟨-, -, e0, -⟩ := hourR_n r
  have hu := h.1.up h0
  refine ⟨?_, ?_⟩
  · rw [e0]
    exact (hu.pT (by omega) (nC r) (by rw [upR_nC]; exact Nat.le_refl _)).mono (by omega) (by omega)
  · have h1 := h.2.pS h.1 (nC r) (Nat.le_refl _)
    have h2 : Sums (upR r) := h1.of (upR_k r (by decide)) (upR_k r (by decide)) (upR_k r (by decide)) (nC_of (upR_k r (by decide))) (fun i hi => by unfold upR; exact fC_fu0 (by decide)) (fun i hi => by unfold upR; exact fC_fu0 (by decide)) (fun i hi => by unfold upR; exact fC_fu0 (by decide))
    exact h2.pT hu (by omega) (nC r) (by rw [upR_nC]; exact Nat.le_refl _)
theorem hoursR_s (r : xR) (n : Nat) : hoursR r (n + 1) = hourR (hoursR r n) := rfl
theorem hoursR_n (r : xR) : ∀ n : Nat, nS (hoursR r n) = nS r ∧ nC (hoursR r n) = nC r ∧ hoursR r n 0 = r 0 + n ∧ hoursR r n 1 = r 1 ∧ hoursR r n 2 = r 2 ∧ hoursR r n 3 = r 3 ∧ hoursR r n 6 = r 6 ∧ hoursR r n 7 = r 7
  | 0 => ⟨rfl, rfl, by show r 0 = r 0 + 0; omega, rfl, rfl, rfl, rfl, rfl⟩
  | n + 1 => by
    obtain ⟨a1, a2, a3, a4, a5, a6, a7, a8⟩ := hoursR_n r n
    obtain ⟨b1, b2, b3, b4, b5, b6, b7, b8⟩ := hourR_n (hoursR r n)
    rw [hoursR_s]
    exact ⟨b1.trans a1, b2.trans a2, by rw [b3, a3]; omega, b4.trans a4, b5.trans a5, b6.trans a6, b7.trans a7, b8.trans a8⟩
theorem Vr.hours {r : xR} (h : Vr r) : ∀ n : Nat, r 0 + n ≤ 999 → Vr (hoursR r n)
  | 0, _ => h
  | n + 1, hn => (Vr.hours h n (by omega)).hour (by rw [(hoursR_n r n).2.2.1]; omega)
end
section
set_option maxHeartbeats 4000000 in
set_option maxRecDepth 100000 in
theorem c_X4_passHours (l : Launch) (D : xD) (Bs sz : Nat) (kd : xKd) (rf : xRf) (M : xM) (b h : Nat) (r : xR) (hS : ShSt kd rf b) (hV : Vr r) (hM : St M b r) (hh : r 0 + h ≤ 999) : CtV l D Bs yX4_passHours cX4_passHours 3 none 5 [.ref b, vi (h : Int)] sz kd rf M (fun M' => St M' b (hoursR r h) ∧ Off M M' b 25) := by
  refine Ctr.of (yv_X4_passHours.1.2.2.2.2) (List.forall_mem_cons.mpr ⟨rfl, List.forall_mem_cons.mpr ⟨rfl, fun _ h => absurd h List.not_mem_nil⟩⟩) (Nat.le_of_ble_eq_true rfl) [some (.ref b), some (vi (h : Int)), none] rfl ?_
  intro p e s m args below meth c X hin
  have hv0 := hV.1.1
  have L2 : ∀ (k : Nat) (i : Nat) (M1 : xM), i + k = h → St M1 b (hoursR r i) → Off M M1 b 25 → G p l e (rmd 5) s m args below meth c D Bs 3 0 0 (MQ below (xQ D Bs (pV sz kd rf (fun M' => St M' b (hoursR r h) ∧ Off M M' b 25))) args s 0 0 (fun q => Bs ≤ q)) sz kd rf (M1) 2 [some (.ref b), some (vi (h : Int)), some (vi (i : Int))] [] := by
    intro k
    induction k with
    | zero =>
      intro i M1 hik hM1 hO1
      have hVi := hV.hours i (by omega)
      have e0 := (hoursR_n r i).2.2.1
      obtain rfl : i = h := by omega
      refine G.iload_n X 3 dX4_passHours_2 rfl rfl ?_
      refine G.iload_n X 4 dX4_passHours_3 rfl rfl ?_
      refine G.icmp_ge X 17 7 dX4_passHours_4 (by decide) rfl (by omega) (by omega) (fun hc4 => ?_) (fun hc4 => ?_)
      · refine G.vret X dX4_passHours_17 ⟨Nat.le_refl _, Nat.le_refl _⟩ ⟨rfl, rfl, rfl, rfl, ?_⟩
        exact ⟨hM1, hO1⟩
      · exfalso; omega
    | succ k ih =>
      intro i M1 hik hM1 hO1
      have hVi := hV.hours i (by omega)
      have e0 := (hoursR_n r i).2.2.1
      have hpre := hVi.pre (by omega)
      refine G.iload_n X 3 dX4_passHours_2 rfl rfl ?_
      refine G.iload_n X 4 dX4_passHours_3 rfl rfl ?_
      refine G.icmp_ge X 17 7 dX4_passHours_4 (by decide) rfl (by omega) (by omega) (fun hc4 => ?_) (fun hc4 => ?_)
      · exfalso; omega
      · refine G.aload_n X 8 dX4_passHours_7 rfl rfl ?_
        refine G.vV0 (d := 4) X ml_X4_140 yv_X4_passHour 11 dX4_passHours_8 rfl (c_X4_passHour l D Bs _ kd rf _ _ _ (hS) hVi.k hM1 hpre.1 hpre.2) ⟨_, _, (hS).1, rfl, rfl⟩ (by decide) ⟨Nat.zero_le _, Nat.zero_le _⟩ (Nat.le_of_ble_eq_true rfl) (fun M8 h8 => ?_)
        refine G.iinc (ls' := [_, _, _]) X 14 dX4_passHours_11 rfl rfl (by decide) rfl ?_
        refine G.goto X 2 dX4_passHours_14 (by decide) ?_
        exact ih (i + 1) _ (by omega) h8.1 (hO1.trans h8.2)
  refine G.iconst X 1 dX4_passHours_0 rfl ?_
  refine G.istore_n (ls' := [_, _, _]) X 2 dX4_passHours_1 rfl (by decide) rfl ?_
  exact L2 h 0 M (by omega) hM Off.rf
/-- the history at a holds the rows L, the newest first; o is its oldest place -/
def HisO (M : xM) (a o : Nat) (L : List xR) : Prop := (o < 5 ∧ M a 1 = (o : Int) ∧ M a 2 = (L.length : Int) ∧ L.length ≤ 5) ∧ ∀ j q, L[j]? = some q → St M (a + 2 + 25 * ((o + (L.length - 1 - j)) % 5)) q
def HisOk (M : xM) (a : Nat) (L : List xR) : Prop := ∃ o, HisO M a o L
def Bn (q : xR) : Prop := nS q ≤ 10 ∧ nC q ≤ 12
theorem HisO.push {M M' : xM} {a o : Nat} {L : List xR} {r : xR} (h : HisO M a o L) (hL : ∀ q ∈ L, Bn q) (hst : St M' (a + 2 + 25 * ((o + L.length) % 5)) r) (hoff : ∀ x, a + 2 ≤ x → x < a + 127 → (x < a + 2 + 25 * ((o + L.length) % 5) ∨ a + 2 + 25 * ((o + L.length) % 5) + 25 ≤ x) → M' x = M x)
    (e : L.length < 5 ∧ M' a 1 = (o : Int) ∧ M' a 2 = (L.length : Int) + 1 ∨ L.length = 5 ∧ M' a 1 = (((o + 1) % 5 : Nat) : Int) ∧ M' a 2 = 5) : HisOk M' a ((r :: L).take 5) := by
  obtain ⟨⟨h1, h2, h3, h4⟩, h5⟩ := h
  rcases e with ⟨e1, e2, e3⟩ | ⟨e1, e2, e3⟩
  · have hlen : ((r :: L).take 5).length = L.length + 1 := by simp; omega
    refine ⟨o, ⟨h1, e2, by rw [hlen, e3]; omega, by rw [hlen]; omega⟩, fun j q hq => ?_⟩
    rw [hlen]
    rw [List.getElem?_take] at hq
    split at hq
    · cases j with
      | zero =>
        rw [List.getElem?_cons_zero] at hq
        cases hq
        exact hst
      | succ j =>
        rw [List.getElem?_cons_succ] at hq
        have hj : j < L.length := (List.getElem?_eq_some_iff.mp hq).1
        rw [show L.length + 1 - 1 - (j + 1) = L.length - 1 - j by omega]
        refine (h5 j q hq).off (hL q (List.mem_of_getElem? hq)) (fun x x1 x2 => hoff x (by omega) (by omega) (by omega))
    · cases hq
  · have hlen : ((r :: L).take 5).length = 5 := by simp; omega
    refine ⟨(o + 1) % 5, ⟨by omega, e2, by rw [hlen, e3]; rfl, by rw [hlen]; omega⟩, fun j q hq => ?_⟩
    rw [hlen]
    rw [List.getElem?_take] at hq
    split at hq
    · cases j with
      | zero =>
        rw [List.getElem?_cons_zero] at hq
        cases hq
        rw [show ((o + 1) % 5 + (5 - 1 - 0)) % 5 = (o + L.length) % 5 by omega]
        exact hst
      | succ j =>
        rw [List.getElem?_cons_succ] at hq
        have hj : j < L.length := (List.getElem?_eq_some_iff.mp hq).1
        rw [show ((o + 1) % 5 + (5 - 1 - (j + 1))) % 5 = (o + (L.length - 1 - j)) % 5 by omega]
        refine (h5 j q hq).off (hL q (List.mem_of_getElem? hq)) (fun x x1 x2 => hoff x (by omega) (by omega) (by omega))
    · cases hq
theorem HisO.pop {M M' : xM} {a o : Nat} {L : List xR} {r : xR} (h : HisO M a o (r :: L)) (hL : ∀ q ∈ L, Bn q) (hoff : ∀ x, a + 2 ≤ x → x < a + 127 → M' x = M x) (e1 : M' a 1 = M a 1) (e2 : M' a 2 = (L.length : Int)) : HisO M' a o L := by
  obtain ⟨⟨h1, h2, h3, h4⟩, h5⟩ := h
  simp only [List.length_cons] at h3 h4 h5
  refine ⟨⟨h1, e1.trans h2, e2, by omega⟩, fun j q hq => ?_⟩
  have g := h5 (j + 1) q hq
  rw [show L.length + 1 - 1 - (j + 1) = L.length - 1 - j by omega] at g
  exact g.off (hL q (List.mem_of_getElem? hq)) (fun x x1 x2 => hoff x (by omega) (by omega))
theorem HisO.off {M M' : xM} {a o : Nat} {L : List xR} (h : HisO M a o L) (hL : ∀ q ∈ L, Bn q) (hoff : ∀ x, a ≤ x → x < a + 127 → M' x = M x) : HisO M' a o L := by
  obtain ⟨⟨h1, h2, h3, h4⟩, h5⟩ := h
  refine ⟨⟨h1, by rw [hoff a (by omega) (by omega)]; exact h2, by rw [hoff a (by omega) (by omega)]; exact h3, h4⟩, fun j q hq => ?_⟩
  exact (h5 j q hq).off (hL q (List.mem_of_getElem? hq)) (fun x x1 x2 => hoff x (by omega) (by omega))
theorem Vb.bn {r : xR} {w d : Int} (h : Vb r w d) : Bn r := ⟨h.n6.2, h.n7.2⟩
set_option maxHeartbeats 4000000 in
set_option maxRecDepth 100000 in
theorem c_X2_push (l : Launch) (D : xD) (Bs sz : Nat) (kd : xKd) (rf : xRf) (M : xM) (a b o : Nat) (L : List xR) (r : xR) (hH : ShH kd rf a) (hS : ShSt kd rf b) (hV : Vk r) (hM : St M b r) (hh : HisO M a o L) (hL : ∀ q ∈ L, Bn q) (hd : b + 25 ≤ a ∨ a + 127 ≤ b) : CtV l D Bs yX2_push cX2_push 2 none 2 [.ref a, .ref b] sz kd rf M (fun M' => HisOk M' a ((r :: L).take 5) ∧ Off M M' a 127) := by
  refine Ctr.of (yv_X2_push.1.2.2.2.2) (List.forall_mem_cons.mpr ⟨rfl, List.forall_mem_cons.mpr ⟨rfl, fun _ h => absurd h List.not_mem_nil⟩⟩) (Nat.le_of_ble_eq_true rfl) [some (.ref a), some (.ref b)] rfl ?_
  intro p e s m args below meth c X hin
  obtain ⟨⟨h1, h2, h3, h4⟩, -⟩ := id hh
  refine G.aload_n X 1 dX2_push_0 rfl rfl ?_
  refine G.getR X fl_X2_11 4 dX2_push_1 rfl (hH).1 (hH).2.1 ?_
  refine G.aload_n X 5 dX2_push_4 rfl rfl ?_
  refine G.getI X fl_X2_18 8 dX2_push_5 rfl (hH).1 ((hH).2.2.1 1 (by decide)) ?_
  refine G.aload_n X 9 dX2_push_8 rfl rfl ?_
  refine G.getI X fl_X2_22 12 dX2_push_9 rfl (hH).1 ((hH).2.2.1 2 (by decide)) ?_
  refine G.iadd X 13 dX2_push_12 rfl ?_
  refine G.iconst X 14 dX2_push_13 rfl ?_
  refine G.iremI X 15 dX2_push_14 rfl (by omega) (by omega) ?_
  refine G.aald X (i := ((o + L.length) % 5)) 16 dX2_push_15 rfl (ShH.k hH) (by decide) (ShH.r hH (by omega)) (by omega) (by omega) (by decide) ?_
  refine G.aload_n X 17 dX2_push_16 rfl rfl ?_
  refine G.vV1 (d := 1) X ml_X2_25 yv_X4_copyFrom 20 dX2_push_17 rfl (c_X4_copyFrom l D Bs _ kd rf _ _ _ _ (ShH.s hH (by omega)) hS hV hM (by omega)) ⟨_, _, (ShH.s hH (by omega)).1, rfl, rfl⟩ (by decide) ⟨Nat.zero_le _, Nat.zero_le _⟩ (Nat.le_of_ble_eq_true rfl) (fun M17 h17 => ?_)
  have ea : M17 a = M a := h17.2 a (by omega)
  refine G.aload_n X 21 dX2_push_20 rfl rfl ?_
  refine G.getf (v := vi ((L.length : Int))) X fl_X2_22 24 dX2_push_21 rfl (hH).1 ((xV_int ((hH).2.2.1 2 (by decide))).trans (congrArg vi ?_)) ?_
  · rw [ea]; exact h3
  refine G.iconst X 25 dX2_push_24 rfl ?_
  refine G.icmp_ge X 41 28 dX2_push_25 (by decide) rfl (by omega) (by omega) (fun hc25 => ?_) (fun hc25 => ?_)
  · refine G.aload_n X 42 dX2_push_41 rfl rfl ?_
    refine G.aload_n X 43 dX2_push_42 rfl rfl ?_
    refine G.getf (v := vi ((o : Int))) X fl_X2_18 46 dX2_push_43 rfl (hH).1 ((xV_int ((hH).2.2.1 1 (by decide))).trans (congrArg vi ?_)) ?_
    · rw [ea]; exact h2
    refine G.iconst X 47 dX2_push_46 rfl ?_
    refine G.iadd X 48 dX2_push_47 rfl ?_
    refine G.iconst X 49 dX2_push_48 rfl ?_
    refine G.iremI X 50 dX2_push_49 rfl (by omega) (by omega) ?_
    refine G.putI X fl_X2_18 fi_2_1 rfl 53 dX2_push_50 rfl (hH).1 ((hH).2.2.1 1 (by decide)) ?_
    refine G.vret X dX2_push_53 ⟨Nat.le_refl _, Nat.le_refl _⟩ ⟨rfl, rfl, rfl, rfl, ?_⟩
    first
      | (refine ⟨hh.push hL (h17.1.off hV.bn (fun x x1 x2 => ms_ne (by omega))) (fun x x1 x2 x3 => (ms_ne (by omega)).trans (h17.2 x (by omega))) (Or.inl ⟨by omega, by rw [mu_ne (Or.inr (by decide)), ea]; exact h2, mu_same⟩), ?_⟩
         intro x hx
         exact (ms_ne (by omega)).trans (h17.2 x (by omega)))
      | (refine ⟨hh.push hL (h17.1.off hV.bn (fun x x1 x2 => ms_ne (by omega))) (fun x x1 x2 x3 => (ms_ne (by omega)).trans (h17.2 x (by omega))) (Or.inr ⟨by omega, by rw [mu_same]; omega, by rw [mu_ne (Or.inr (by decide)), ea]; omega⟩), ?_⟩
         intro x hx
         exact (ms_ne (by omega)).trans (h17.2 x (by omega)))
  · refine G.aload_n X 29 dX2_push_28 rfl rfl ?_
    refine G.dup X 30 dX2_push_29 rfl rfl ?_
    refine G.getf (v := vi ((L.length : Int))) X fl_X2_22 33 dX2_push_30 rfl (hH).1 ((xV_int ((hH).2.2.1 2 (by decide))).trans (congrArg vi ?_)) ?_
    · rw [ea]; exact h3
    refine G.iconst X 34 dX2_push_33 rfl ?_
    refine G.iadd X 35 dX2_push_34 rfl ?_
    refine G.putI X fl_X2_22 fi_2_2 rfl 38 dX2_push_35 rfl (hH).1 ((hH).2.2.1 2 (by decide)) ?_
    refine G.goto X 53 dX2_push_38 (by decide) ?_
    refine G.vret X dX2_push_53 ⟨Nat.le_refl _, Nat.le_refl _⟩ ⟨rfl, rfl, rfl, rfl, ?_⟩
    first
      | (refine ⟨hh.push hL (h17.1.off hV.bn (fun x x1 x2 => ms_ne (by omega))) (fun x x1 x2 x3 => (ms_ne (by omega)).trans (h17.2 x (by omega))) (Or.inl ⟨by omega, by rw [mu_ne (Or.inr (by decide)), ea]; exact h2, mu_same⟩), ?_⟩
         intro x hx
         exact (ms_ne (by omega)).trans (h17.2 x (by omega)))
      | (refine ⟨hh.push hL (h17.1.off hV.bn (fun x x1 x2 => ms_ne (by omega))) (fun x x1 x2 x3 => (ms_ne (by omega)).trans (h17.2 x (by omega))) (Or.inr ⟨by omega, by rw [mu_same]; omega, by rw [mu_ne (Or.inr (by decide)), ea]; omega⟩), ?_⟩
         intro x hx
         exact (ms_ne (by omega)).trans (h17.2 x (by omega)))
set_option maxHeartbeats 4000000 in
set_option maxRecDepth 100000 in
theorem c_X2_popInto0 (l : Launch) (D : xD) (Bs sz : Nat) (kd : xKd) (rf : xRf) (M : xM) (a b : Nat) (hH : ShH kd rf a) (hS : ShSt kd rf b) (h2 : M a 2 = 0) : CtI l D Bs yX2_popInto cX2_popInto 2 (some .boolean) 2 [.ref a, .ref b] sz kd rf M (fun q M' => q = 0 ∧ M' = M) := by
  refine Ctr.of (yv_X2_popInto.1.2.2.2.2) (List.forall_mem_cons.mpr ⟨rfl, List.forall_mem_cons.mpr ⟨rfl, fun _ h => absurd h List.not_mem_nil⟩⟩) (Nat.le_of_ble_eq_true rfl) [some (.ref a), some (.ref b)] rfl ?_
  intro p e s m args below meth c X hin
  refine G.aload_n X 1 dX2_popInto_0 rfl rfl ?_
  refine G.getI X fl_X2_22 4 dX2_popInto_1 rfl (hH).1 ((hH).2.2.1 2 (by decide)) ?_
  refine G.if_gt X 9 7 dX2_popInto_4 (by decide) rfl (by omega) (fun hc4 => ?_) (fun hc4 => ?_)
  · exfalso; omega
  · refine G.iconst X 8 dX2_popInto_7 rfl ?_
    refine G.zret X dX2_popInto_8 ⟨Nat.le_refl _, Nat.le_refl _⟩ (Or.inl rfl) ⟨rfl, rfl, rfl, _, rfl, ?_⟩
    exact ⟨rfl, rfl⟩
set_option maxHeartbeats 4000000 in
set_option maxRecDepth 100000 in
theorem c_X2_popInto1 (l : Launch) (D : xD) (Bs sz : Nat) (kd : xKd) (rf : xRf) (M : xM) (a b o : Nat) (L : List xR) (r : xR) (hH : ShH kd rf a) (hS : ShSt kd rf b) (hV : Vk r) (hh : HisO M a o (r :: L)) (hL : ∀ q ∈ L, Bn q) (hd : b + 25 ≤ a ∨ a + 127 ≤ b) : CtI l D Bs yX2_popInto cX2_popInto 2 (some .boolean) 2 [.ref a, .ref b] sz kd rf M (fun q M' => q = 1 ∧ (St M' b r ∧ HisO M' a o L) ∧ (M' a 2 = (L.length : Int)) ∧ ∀ x, x ≠ a → (x < b ∨ b + 25 ≤ x) → M' x = M x) := by
  refine Ctr.of (yv_X2_popInto.1.2.2.2.2) (List.forall_mem_cons.mpr ⟨rfl, List.forall_mem_cons.mpr ⟨rfl, fun _ h => absurd h List.not_mem_nil⟩⟩) (Nat.le_of_ble_eq_true rfl) [some (.ref a), some (.ref b)] rfl ?_
  intro p e s m args below meth c X hin
  obtain ⟨⟨h1, h2, h3, h4⟩, h5⟩ := id hh
  simp only [List.length_cons] at h3 h4
  have hr : St M (a + 2 + 25 * ((o + L.length) % 5)) r := h5 0 r rfl
  refine G.aload_n X 1 dX2_popInto_0 rfl rfl ?_
  refine G.getI X fl_X2_22 4 dX2_popInto_1 rfl (hH).1 ((hH).2.2.1 2 (by decide)) ?_
  refine G.if_gt X 9 7 dX2_popInto_4 (by decide) rfl (by omega) (fun hc4 => ?_) (fun hc4 => ?_)
  · refine G.aload_n X 10 dX2_popInto_9 rfl rfl ?_
    refine G.dup X 11 dX2_popInto_10 rfl rfl ?_
    refine G.getf (v := vi ((L.length : Int) + 1)) X fl_X2_22 14 dX2_popInto_11 rfl (hH).1 ((xV_int ((hH).2.2.1 2 (by decide))).trans (congrArg vi ?_)) ?_
    · omega
    refine G.iconst X 15 dX2_popInto_14 rfl ?_
    refine G.isub X 16 dX2_popInto_15 rfl ?_
    refine G.putI X fl_X2_22 fi_2_2 rfl 19 dX2_popInto_16 rfl (hH).1 ((hH).2.2.1 2 (by decide)) ?_
    refine G.aload_n X 20 dX2_popInto_19 rfl rfl ?_
    refine G.aload_n X 21 dX2_popInto_20 rfl rfl ?_
    refine G.getR X fl_X2_11 24 dX2_popInto_21 rfl (hH).1 (hH).2.1 ?_
    refine G.aload_n X 25 dX2_popInto_24 rfl rfl ?_
    refine G.getf (v := vi ((o : Int))) X fl_X2_18 28 dX2_popInto_25 rfl (hH).1 ((xV_int ((hH).2.2.1 1 (by decide))).trans (congrArg vi ?_)) ?_
    · rw [mu_ne (Or.inr (by decide))]; exact h2
    refine G.aload_n X 29 dX2_popInto_28 rfl rfl ?_
    refine G.getf (v := vi ((L.length : Int))) X fl_X2_22 32 dX2_popInto_29 rfl (hH).1 ((xV_int ((hH).2.2.1 2 (by decide))).trans (congrArg vi ?_)) ?_
    · rw [mu_same]; omega
    refine G.iadd X 33 dX2_popInto_32 rfl ?_
    refine G.iconst X 34 dX2_popInto_33 rfl ?_
    refine G.iremI X 35 dX2_popInto_34 rfl (by omega) (by omega) ?_
    refine G.aald X (i := ((o + L.length) % 5)) 36 dX2_popInto_35 rfl (ShH.k hH) (by decide) (ShH.r hH (by omega)) (by omega) (by omega) (by decide) ?_
    refine G.vV1 (d := 1) X ml_X2_25 yv_X4_copyFrom 39 dX2_popInto_36 rfl (c_X4_copyFrom l D Bs _ kd rf _ _ _ r (hS) (ShH.s hH (by omega)) hV (hr.off hV.bn (fun x x1 x2 => ms_ne (by omega))) (by omega)) ⟨_, _, (hS).1, rfl, rfl⟩ (by decide) ⟨Nat.zero_le _, Nat.zero_le _⟩ (Nat.le_of_ble_eq_true rfl) (fun M36 h36 => ?_)
    have ea : M36 a 1 = M a 1 ∧ M36 a 2 = (L.length : Int) := by
      rw [h36.2 a (by omega)]
      exact ⟨mu_ne (Or.inr (by decide)), by rw [mu_same]; omega⟩
    refine G.iconst X 40 dX2_popInto_39 rfl ?_
    refine G.zret X dX2_popInto_40 ⟨Nat.le_refl _, Nat.le_refl _⟩ (Or.inr rfl) ⟨rfl, rfl, rfl, _, rfl, ?_⟩
    refine ⟨rfl, ⟨h36.1, hh.pop hL (fun x x1 x2 => (h36.2 x (by omega)).trans (ms_ne (by omega))) ea.1 ea.2⟩, ea.2, fun x x1 x2 => (h36.2 x (by omega)).trans (ms_ne x1)⟩
  · exfalso; omega
/-- the text at a holds the signs t -/
def TxO (M : xM) (a : Nat) (t : List Int) : Prop := (M a 1 = (t.length : Int) ∧ t.length ≤ 60) ∧ ∀ j, j < t.length → M (a + 1) j = t.getD j 0
theorem TxO.off {M M' : xM} {a : Nat} {t : List Int} (h : TxO M a t) (h1 : M' a 1 = M a 1) (h2 : M' (a + 1) = M (a + 1)) : TxO M' a t := by
  refine ⟨⟨h1.trans h.1.1, h.1.2⟩, fun j hj => ?_⟩
  rw [h2]
  exact h.2 j hj
theorem TxO.add {M M' : xM} {a : Nat} {t : List Int} {c : Int} (h : TxO M a t) (hl : t.length < 60) (h1 : M' a 1 = (t.length : Int) + 1) (h2 : M' (a + 1) = fu (M (a + 1)) t.length c) : TxO M' a (t ++ [c]) := by
  refine ⟨⟨by rw [h1]; simp, by simp; omega⟩, fun j hj => ?_⟩
  rw [h2]
  simp only [List.getD_eq_getElem?_getD]
  by_cases e : j = t.length
  · subst e
    rw [fu_same]
    simp
  · have hj2 : j < t.length := by simp at hj; omega
    rw [fu_ne e, List.getElem?_append_left hj2, ← List.getD_eq_getElem?_getD]
    exact h.2 j hj2
set_option maxHeartbeats 4000000 in
set_option maxRecDepth 100000 in
theorem c_X3_append (l : Launch) (D : xD) (Bs sz : Nat) (kd : xKd) (rf : xRf) (M : xM) (a : Nat) (c : Int) (t : List Int) (hT : ShT kd rf a) (ht : TxO M a t) (hc : 0 ≤ c ∧ c < 65536) : CtI l D Bs yX3_append cX3_append 2 (some .boolean) 0 [.ref a, vi c] sz kd rf M (fun q M' => q = bi (t.length < 60) ∧ (t.length < 60 → TxO M' a (t ++ [c])) ∧ (¬ t.length < 60 → M' = M) ∧ ∀ x, x ≠ a → x ≠ a + 1 → M' x = M x) := by
  refine Ctr.of (yv_X3_append.1.2.2.2.2) (List.forall_mem_cons.mpr ⟨rfl, List.forall_mem_cons.mpr ⟨rfl, fun _ h => absurd h List.not_mem_nil⟩⟩) (Nat.le_of_ble_eq_true rfl) [some (.ref a), some (vi c)] rfl ?_
  intro p e s m args below meth c X hin
  obtain ⟨⟨t1, t2⟩, t3⟩ := id ht
  refine G.aload_n X 1 dX3_append_0 rfl rfl ?_
  refine G.getI X fl_X3_22 4 dX3_append_1 rfl (hT).1 ((hT).2.2.2.1 1 (by decide)) ?_
  refine G.bipush X 6 dX3_append_4 rfl (by decide) ?_
  refine G.icmp_lt X 11 9 dX3_append_6 (by decide) rfl (by omega) (by omega) (fun hc6 => ?_) (fun hc6 => ?_)
  · refine G.aload_n X 12 dX3_append_11 rfl rfl ?_
    refine G.getR X fl_X3_9 15 dX3_append_12 rfl (hT).1 (hT).2.1 ?_
    refine G.aload_n X 16 dX3_append_15 rfl rfl ?_
    refine G.getf (v := vi ((t.length : Int))) X fl_X3_22 19 dX3_append_16 rfl (hT).1 ((xV_int ((hT).2.2.2.1 1 (by decide))).trans (congrArg vi ?_)) ?_
    · exact t1
    refine G.iload_n X 20 dX3_append_19 rfl rfl ?_
    refine G.cast X 21 dX3_append_20 rfl (ShT.signs hT).1 ((ShT.signs hT).2 _) rfl (by omega) (by decide) (by omega) ?_
    refine G.aload_n X 22 dX3_append_21 rfl rfl ?_
    refine G.dup X 23 dX3_append_22 rfl rfl ?_
    refine G.getf (v := vi ((t.length : Int))) X fl_X3_22 26 dX3_append_23 rfl (hT).1 ((xV_int ((hT).2.2.2.1 1 (by decide))).trans (congrArg vi ?_)) ?_
    · rw [mu_ne (Or.inl (by omega))]; exact t1
    refine G.iconst X 27 dX3_append_26 rfl ?_
    refine G.iadd X 28 dX3_append_27 rfl ?_
    refine G.putI X fl_X3_22 fi_3_1 rfl 31 dX3_append_28 rfl (hT).1 ((hT).2.2.2.1 1 (by decide)) ?_
    refine G.iconst X 32 dX3_append_31 rfl ?_
    refine G.zret X dX3_append_32 ⟨Nat.le_refl _, Nat.le_refl _⟩ (Or.inr rfl) ⟨rfl, rfl, rfl, _, rfl, ?_⟩
    refine ⟨(bi_t (by omega)).symm, fun h => ht.add h mu_same ?_, fun h => absurd h (by omega), fun x x1 x2 => (ms_ne x1).trans (ms_ne x2)⟩
    show ms _ a _ (a + 1) = _
    rw [ms_ne (by omega)]
    exact ms_same
  · refine G.iconst X 10 dX3_append_9 rfl ?_
    refine G.zret X dX3_append_10 ⟨Nat.le_refl _, Nat.le_refl _⟩ (Or.inl rfl) ⟨rfl, rfl, rfl, _, rfl, ?_⟩
    exact ⟨(bi_f (by omega)).symm, fun h => by omega, fun _ => rfl, fun _ _ _ => rfl⟩
end

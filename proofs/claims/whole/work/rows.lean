section
-- ===== PART A: goes FIRST, ahead of the names: the tables' words, and 'selects' of the private methods out of them =====
/-- a private method of a class that the tables say can be made, by its rows of tables_1 -/
def lw_okq (q : MethodName × Nat) : Prop := (q.1.cls ≠ "java/lang/invoke/MethodHandle" ∧ q.1.cls ≠ "java/lang/invoke/VarHandle") ∧ Cond.instantiable q.1.cls q.2 ∈ tables_1 ∧ Cond.privateMethod q.1 ∈ tables_1 ∧ Cond.instanceMethod q.1 ∈ tables_1
theorem lw_p0 : lw_okq (⟨"SpunTales$Hearth", "keepInMind", "(II)V"⟩, 14) := ⟨⟨by decide +kernel, by decide +kernel⟩, List.mem_of_getElem? (i := 23) (by decide +kernel), List.mem_of_getElem? (i := 474) (by decide +kernel), List.mem_of_getElem? (i := 475) (by decide +kernel)⟩
theorem lw_p1 : lw_okq (⟨"SpunTales$StoreSearch", "weigh", "(LSpunTales$Hearth;I)V"⟩, 11) := ⟨⟨by decide +kernel, by decide +kernel⟩, List.mem_of_getElem? (i := 123) (by decide +kernel), List.mem_of_getElem? (i := 492) (by decide +kernel), List.mem_of_getElem? (i := 493) (by decide +kernel)⟩
theorem lw_p2 : lw_okq (⟨"SpunTales$StoreSearch", "search", "(II)V"⟩, 11) := ⟨⟨by decide +kernel, by decide +kernel⟩, List.mem_of_getElem? (i := 123) (by decide +kernel), List.mem_of_getElem? (i := 499) (by decide +kernel), List.mem_of_getElem? (i := 500) (by decide +kernel)⟩
theorem lw_p3 : lw_okq (⟨"SpunTales$Game", "heardUntilGone", "(I)I"⟩, 4) := ⟨⟨by decide +kernel, by decide +kernel⟩, List.mem_of_getElem? (i := 262) (by decide +kernel), List.mem_of_getElem? (i := 522) (by decide +kernel), List.mem_of_getElem? (i := 523) (by decide +kernel)⟩
theorem lw_p4 : lw_okq (⟨"SpunTales$Game", "tellerRests", "(II)Z"⟩, 4) := ⟨⟨by decide +kernel, by decide +kernel⟩, List.mem_of_getElem? (i := 262) (by decide +kernel), List.mem_of_getElem? (i := 540) (by decide +kernel), List.mem_of_getElem? (i := 541) (by decide +kernel)⟩
theorem lw_p5 : lw_okq (⟨"SpunTales$Game", "spinnerRests", "(II)Z"⟩, 4) := ⟨⟨by decide +kernel, by decide +kernel⟩, List.mem_of_getElem? (i := 262) (by decide +kernel), List.mem_of_getElem? (i := 545) (by decide +kernel), List.mem_of_getElem? (i := 546) (by decide +kernel)⟩
theorem lw_p6 : lw_okq (⟨"SpunTales", "takeItems", "(IIIII)I"⟩, 12) := ⟨⟨by decide +kernel, by decide +kernel⟩, List.mem_of_getElem? (i := 15) (by decide +kernel), List.mem_of_getElem? (i := 575) (by decide +kernel), List.mem_of_getElem? (i := 576) (by decide +kernel)⟩
theorem lw_p7 : lw_okq (⟨"SpunTales$CoatSearch", "spinAll", "(LSpunTales$Hearth;II)V"⟩, 9) := ⟨⟨by decide +kernel, by decide +kernel⟩, List.mem_of_getElem? (i := 165) (by decide +kernel), List.mem_of_getElem? (i := 591) (by decide +kernel), List.mem_of_getElem? (i := 592) (by decide +kernel)⟩
theorem lw_p8 : lw_okq (⟨"SpunTales$CoatSearch", "isUnlikeEarlier", "(II)Z"⟩, 9) := ⟨⟨by decide +kernel, by decide +kernel⟩, List.mem_of_getElem? (i := 165) (by decide +kernel), List.mem_of_getElem? (i := 600) (by decide +kernel), List.mem_of_getElem? (i := 601) (by decide +kernel)⟩
theorem lw_p9 : lw_okq (⟨"SpunTales$CoatSearch", "addHope", "(I)V"⟩, 9) := ⟨⟨by decide +kernel, by decide +kernel⟩, List.mem_of_getElem? (i := 165) (by decide +kernel), List.mem_of_getElem? (i := 607) (by decide +kernel), List.mem_of_getElem? (i := 608) (by decide +kernel)⟩
theorem lw_p10 : lw_okq (⟨"SpunTales$CoatSearch", "search", "(II)V"⟩, 9) := ⟨⟨by decide +kernel, by decide +kernel⟩, List.mem_of_getElem? (i := 165) (by decide +kernel), List.mem_of_getElem? (i := 612) (by decide +kernel), List.mem_of_getElem? (i := 613) (by decide +kernel)⟩
theorem lw_p11 : lw_okq (⟨"SpunTales$CoatSearch", "isCovered", "([I)Z"⟩, 9) := ⟨⟨by decide +kernel, by decide +kernel⟩, List.mem_of_getElem? (i := 165) (by decide +kernel), List.mem_of_getElem? (i := 616) (by decide +kernel), List.mem_of_getElem? (i := 617) (by decide +kernel)⟩
theorem lw_p12 : lw_okq (⟨"SpunTales$CoatSearch", "take", "(II)V"⟩, 9) := ⟨⟨by decide +kernel, by decide +kernel⟩, List.mem_of_getElem? (i := 165) (by decide +kernel), List.mem_of_getElem? (i := 621) (by decide +kernel), List.mem_of_getElem? (i := 622) (by decide +kernel)⟩
theorem lw_p13 : lw_okq (⟨"SpunTales$RowReading", "waysOn", "(LSpunTales$Hearth;[IIII)I"⟩, 4) := ⟨⟨by decide +kernel, by decide +kernel⟩, List.mem_of_getElem? (i := 203) (by decide +kernel), List.mem_of_getElem? (i := 640) (by decide +kernel), List.mem_of_getElem? (i := 641) (by decide +kernel)⟩
theorem lw_p14 : lw_okq (⟨"SpunTales$RowReading", "followFirst", "(LSpunTales$Hearth;[II)V"⟩, 4) := ⟨⟨by decide +kernel, by decide +kernel⟩, List.mem_of_getElem? (i := 203) (by decide +kernel), List.mem_of_getElem? (i := 648) (by decide +kernel), List.mem_of_getElem? (i := 649) (by decide +kernel)⟩
theorem lw_p15 : lw_okq (⟨"SpunTales$RowReading", "firstOn", "(LSpunTales$Hearth;[IIII)I"⟩, 4) := ⟨⟨by decide +kernel, by decide +kernel⟩, List.mem_of_getElem? (i := 203) (by decide +kernel), List.mem_of_getElem? (i := 652) (by decide +kernel), List.mem_of_getElem? (i := 653) (by decide +kernel)⟩
def lw_privs_1 : List (MethodName × Nat) := [(⟨"SpunTales$Hearth", "keepInMind", "(II)V"⟩, 14), (⟨"SpunTales$StoreSearch", "weigh", "(LSpunTales$Hearth;I)V"⟩, 11), (⟨"SpunTales$StoreSearch", "search", "(II)V"⟩, 11), (⟨"SpunTales$Game", "heardUntilGone", "(I)I"⟩, 4), (⟨"SpunTales$Game", "tellerRests", "(II)Z"⟩, 4), (⟨"SpunTales$Game", "spinnerRests", "(II)Z"⟩, 4), (⟨"SpunTales", "takeItems", "(IIIII)I"⟩, 12), (⟨"SpunTales$CoatSearch", "spinAll", "(LSpunTales$Hearth;II)V"⟩, 9), (⟨"SpunTales$CoatSearch", "isUnlikeEarlier", "(II)Z"⟩, 9), (⟨"SpunTales$CoatSearch", "addHope", "(I)V"⟩, 9), (⟨"SpunTales$CoatSearch", "search", "(II)V"⟩, 9), (⟨"SpunTales$CoatSearch", "isCovered", "([I)Z"⟩, 9), (⟨"SpunTales$CoatSearch", "take", "(II)V"⟩, 9), (⟨"SpunTales$RowReading", "waysOn", "(LSpunTales$Hearth;[IIII)I"⟩, 4), (⟨"SpunTales$RowReading", "followFirst", "(LSpunTales$Hearth;[II)V"⟩, 4), (⟨"SpunTales$RowReading", "firstOn", "(LSpunTales$Hearth;[IIII)I"⟩, 4)]
theorem lw_r1 : ∀ q ∈ lw_privs_1, lw_okq q := List.forall_mem_cons.mpr ⟨lw_p0, List.forall_mem_cons.mpr ⟨lw_p1, List.forall_mem_cons.mpr ⟨lw_p2, List.forall_mem_cons.mpr ⟨lw_p3, List.forall_mem_cons.mpr ⟨lw_p4, List.forall_mem_cons.mpr ⟨lw_p5, List.forall_mem_cons.mpr ⟨lw_p6, List.forall_mem_cons.mpr ⟨lw_p7, List.forall_mem_cons.mpr ⟨lw_p8, List.forall_mem_cons.mpr ⟨lw_p9, List.forall_mem_cons.mpr ⟨lw_p10, List.forall_mem_cons.mpr ⟨lw_p11, List.forall_mem_cons.mpr ⟨lw_p12, List.forall_mem_cons.mpr ⟨lw_p13, List.forall_mem_cons.mpr ⟨lw_p14, List.forall_mem_cons.mpr ⟨lw_p15, fun _ h => absurd h List.not_mem_nil⟩⟩⟩⟩⟩⟩⟩⟩⟩⟩⟩⟩⟩⟩⟩⟩
theorem lw_p16 : lw_okq (⟨"SpunTales", "areTangledTo", "(III)Z"⟩, 12) := ⟨⟨by decide +kernel, by decide +kernel⟩, List.mem_of_getElem? (i := 15) (by decide +kernel), List.mem_of_getElem? (i := 660) (by decide +kernel), List.mem_of_getElem? (i := 661) (by decide +kernel)⟩
theorem lw_p17 : lw_okq (⟨"SpunTales$Passing", "search", "(I)V"⟩, 9) := ⟨⟨by decide +kernel, by decide +kernel⟩, List.mem_of_getElem? (i := 225) (by decide +kernel), List.mem_of_getElem? (i := 686) (by decide +kernel), List.mem_of_getElem? (i := 687) (by decide +kernel)⟩
theorem lw_p18 : lw_okq (⟨"SpunTales$Passing", "keepRow", "()V"⟩, 9) := ⟨⟨by decide +kernel, by decide +kernel⟩, List.mem_of_getElem? (i := 225) (by decide +kernel), List.mem_of_getElem? (i := 691) (by decide +kernel), List.mem_of_getElem? (i := 692) (by decide +kernel)⟩
theorem lw_p19 : lw_okq (⟨"SpunTalesModel", "isSentence", "(II)Z"⟩, 16) := ⟨⟨by decide +kernel, by decide +kernel⟩, List.mem_of_getElem? (i := 718) (by decide +kernel), List.mem_of_getElem? (i := 794) (by decide +kernel), List.mem_of_getElem? (i := 795) (by decide +kernel)⟩
theorem lw_p20 : lw_okq (⟨"SpunTalesModel", "isTale", "(I)Z"⟩, 16) := ⟨⟨by decide +kernel, by decide +kernel⟩, List.mem_of_getElem? (i := 718) (by decide +kernel), List.mem_of_getElem? (i := 798) (by decide +kernel), List.mem_of_getElem? (i := 799) (by decide +kernel)⟩
theorem lw_p21 : lw_okq (⟨"SpunTalesModel", "isTeller", "(I)Z"⟩, 16) := ⟨⟨by decide +kernel, by decide +kernel⟩, List.mem_of_getElem? (i := 718) (by decide +kernel), List.mem_of_getElem? (i := 825) (by decide +kernel), List.mem_of_getElem? (i := 826) (by decide +kernel)⟩
theorem lw_p22 : lw_okq (⟨"SpunTalesModel", "tellsIt", "(III)I"⟩, 16) := ⟨⟨by decide +kernel, by decide +kernel⟩, List.mem_of_getElem? (i := 718) (by decide +kernel), List.mem_of_getElem? (i := 829) (by decide +kernel), List.mem_of_getElem? (i := 830) (by decide +kernel)⟩
theorem lw_p23 : lw_okq (⟨"SpunTalesModel", "isSpinner", "(I)Z"⟩, 16) := ⟨⟨by decide +kernel, by decide +kernel⟩, List.mem_of_getElem? (i := 718) (by decide +kernel), List.mem_of_getElem? (i := 840) (by decide +kernel), List.mem_of_getElem? (i := 841) (by decide +kernel)⟩
theorem lw_p24 : lw_okq (⟨"SpunTalesModel", "hasMind", "(III)Z"⟩, 16) := ⟨⟨by decide +kernel, by decide +kernel⟩, List.mem_of_getElem? (i := 718) (by decide +kernel), List.mem_of_getElem? (i := 853) (by decide +kernel), List.mem_of_getElem? (i := 854) (by decide +kernel)⟩
theorem lw_p25 : lw_okq (⟨"SpunTalesModel", "isMind", "(II)Z"⟩, 16) := ⟨⟨by decide +kernel, by decide +kernel⟩, List.mem_of_getElem? (i := 718) (by decide +kernel), List.mem_of_getElem? (i := 857) (by decide +kernel), List.mem_of_getElem? (i := 858) (by decide +kernel)⟩
theorem lw_p26 : lw_okq (⟨"SpunTalesModel", "sortsBy", "(II)I"⟩, 16) := ⟨⟨by decide +kernel, by decide +kernel⟩, List.mem_of_getElem? (i := 718) (by decide +kernel), List.mem_of_getElem? (i := 879) (by decide +kernel), List.mem_of_getElem? (i := 880) (by decide +kernel)⟩
theorem lw_p27 : lw_okq (⟨"SpunTalesModel", "points", "(IIIII)I"⟩, 16) := ⟨⟨by decide +kernel, by decide +kernel⟩, List.mem_of_getElem? (i := 718) (by decide +kernel), List.mem_of_getElem? (i := 888) (by decide +kernel), List.mem_of_getElem? (i := 889) (by decide +kernel)⟩
theorem lw_p28 : lw_okq (⟨"SpunTalesModel", "barred", "(IIIII)I"⟩, 16) := ⟨⟨by decide +kernel, by decide +kernel⟩, List.mem_of_getElem? (i := 718) (by decide +kernel), List.mem_of_getElem? (i := 913) (by decide +kernel), List.mem_of_getElem? (i := 914) (by decide +kernel)⟩
theorem lw_p29 : lw_okq (⟨"SpunTalesModel", "found", "(IIII)I"⟩, 16) := ⟨⟨by decide +kernel, by decide +kernel⟩, List.mem_of_getElem? (i := 718) (by decide +kernel), List.mem_of_getElem? (i := 917) (by decide +kernel), List.mem_of_getElem? (i := 918) (by decide +kernel)⟩
theorem lw_p30 : lw_okq (⟨"SpunTalesModel", "measures", "(I)V"⟩, 16) := ⟨⟨by decide +kernel, by decide +kernel⟩, List.mem_of_getElem? (i := 718) (by decide +kernel), List.mem_of_getElem? (i := 921) (by decide +kernel), List.mem_of_getElem? (i := 922) (by decide +kernel)⟩
theorem lw_p31 : lw_okq (⟨"SpunTalesModel", "finds", "(II)Z"⟩, 16) := ⟨⟨by decide +kernel, by decide +kernel⟩, List.mem_of_getElem? (i := 718) (by decide +kernel), List.mem_of_getElem? (i := 925) (by decide +kernel), List.mem_of_getElem? (i := 926) (by decide +kernel)⟩
def lw_privs_2 : List (MethodName × Nat) := [(⟨"SpunTales", "areTangledTo", "(III)Z"⟩, 12), (⟨"SpunTales$Passing", "search", "(I)V"⟩, 9), (⟨"SpunTales$Passing", "keepRow", "()V"⟩, 9), (⟨"SpunTalesModel", "isSentence", "(II)Z"⟩, 16), (⟨"SpunTalesModel", "isTale", "(I)Z"⟩, 16), (⟨"SpunTalesModel", "isTeller", "(I)Z"⟩, 16), (⟨"SpunTalesModel", "tellsIt", "(III)I"⟩, 16), (⟨"SpunTalesModel", "isSpinner", "(I)Z"⟩, 16), (⟨"SpunTalesModel", "hasMind", "(III)Z"⟩, 16), (⟨"SpunTalesModel", "isMind", "(II)Z"⟩, 16), (⟨"SpunTalesModel", "sortsBy", "(II)I"⟩, 16), (⟨"SpunTalesModel", "points", "(IIIII)I"⟩, 16), (⟨"SpunTalesModel", "barred", "(IIIII)I"⟩, 16), (⟨"SpunTalesModel", "found", "(IIII)I"⟩, 16), (⟨"SpunTalesModel", "measures", "(I)V"⟩, 16), (⟨"SpunTalesModel", "finds", "(II)Z"⟩, 16)]
theorem lw_r2 : ∀ q ∈ lw_privs_2, lw_okq q := List.forall_mem_cons.mpr ⟨lw_p16, List.forall_mem_cons.mpr ⟨lw_p17, List.forall_mem_cons.mpr ⟨lw_p18, List.forall_mem_cons.mpr ⟨lw_p19, List.forall_mem_cons.mpr ⟨lw_p20, List.forall_mem_cons.mpr ⟨lw_p21, List.forall_mem_cons.mpr ⟨lw_p22, List.forall_mem_cons.mpr ⟨lw_p23, List.forall_mem_cons.mpr ⟨lw_p24, List.forall_mem_cons.mpr ⟨lw_p25, List.forall_mem_cons.mpr ⟨lw_p26, List.forall_mem_cons.mpr ⟨lw_p27, List.forall_mem_cons.mpr ⟨lw_p28, List.forall_mem_cons.mpr ⟨lw_p29, List.forall_mem_cons.mpr ⟨lw_p30, List.forall_mem_cons.mpr ⟨lw_p31, fun _ h => absurd h List.not_mem_nil⟩⟩⟩⟩⟩⟩⟩⟩⟩⟩⟩⟩⟩⟩⟩⟩
theorem lw_p32 : lw_okq (⟨"SpunTalesModel", "isCoat", "(II)Z"⟩, 16) := ⟨⟨by decide +kernel, by decide +kernel⟩, List.mem_of_getElem? (i := 718) (by decide +kernel), List.mem_of_getElem? (i := 929) (by decide +kernel), List.mem_of_getElem? (i := 930) (by decide +kernel)⟩
theorem lw_p33 : lw_okq (⟨"SpunTalesModel", "after", "(I)I"⟩, 16) := ⟨⟨by decide +kernel, by decide +kernel⟩, List.mem_of_getElem? (i := 718) (by decide +kernel), List.mem_of_getElem? (i := 933) (by decide +kernel), List.mem_of_getElem? (i := 934) (by decide +kernel)⟩
theorem lw_p34 : lw_okq (⟨"SpunTalesModel", "isSo", "(III)Z"⟩, 16) := ⟨⟨by decide +kernel, by decide +kernel⟩, List.mem_of_getElem? (i := 718) (by decide +kernel), List.mem_of_getElem? (i := 942) (by decide +kernel), List.mem_of_getElem? (i := 943) (by decide +kernel)⟩
theorem lw_p35 : lw_okq (⟨"SpunTalesModel", "tangles", "(II)I"⟩, 16) := ⟨⟨by decide +kernel, by decide +kernel⟩, List.mem_of_getElem? (i := 718) (by decide +kernel), List.mem_of_getElem? (i := 950) (by decide +kernel), List.mem_of_getElem? (i := 951) (by decide +kernel)⟩
theorem lw_p36 : lw_okq (⟨"SpunTalesModel", "becomes", "(IIIII)Z"⟩, 16) := ⟨⟨by decide +kernel, by decide +kernel⟩, List.mem_of_getElem? (i := 718) (by decide +kernel), List.mem_of_getElem? (i := 962) (by decide +kernel), List.mem_of_getElem? (i := 963) (by decide +kernel)⟩
def lw_privs_3 : List (MethodName × Nat) := [(⟨"SpunTalesModel", "isCoat", "(II)Z"⟩, 16), (⟨"SpunTalesModel", "after", "(I)I"⟩, 16), (⟨"SpunTalesModel", "isSo", "(III)Z"⟩, 16), (⟨"SpunTalesModel", "tangles", "(II)I"⟩, 16), (⟨"SpunTalesModel", "becomes", "(IIIII)Z"⟩, 16)]
theorem lw_r3 : ∀ q ∈ lw_privs_3, lw_okq q := List.forall_mem_cons.mpr ⟨lw_p32, List.forall_mem_cons.mpr ⟨lw_p33, List.forall_mem_cons.mpr ⟨lw_p34, List.forall_mem_cons.mpr ⟨lw_p35, List.forall_mem_cons.mpr ⟨lw_p36, fun _ h => absurd h List.not_mem_nil⟩⟩⟩⟩⟩
def lw_privs : List (MethodName × Nat) := lw_privs_1 ++ (lw_privs_2 ++ (lw_privs_3))
def lw_tbl : List Cond := k2_sels lw_privs ++ tables_1
theorem lw_privs_ok : ∀ q ∈ lw_privs, lw_okq q := by
  show ∀ q ∈ lw_privs_1 ++ (lw_privs_2 ++ (lw_privs_3)), lw_okq q
  exact List.forall_mem_append.mpr ⟨lw_r1, List.forall_mem_append.mpr ⟨lw_r2, lw_r3⟩⟩
end
section
/-! ===== BEGIN printed: names, fields, word lists, decode rows ===== -/
def RX0 : String := "SpunTales$CoatSearch"
def TX0 : u_T := fun k => match k with
  | 0 => ("SpunTales$CoatSearch", "spun", "[[I", true)
  | 1 => ("SpunTales$CoatSearch", "isNew", "[Z", true)
  | 2 => ("SpunTales$CoatSearch", "hope", "[[I", true)
  | 3 => ("SpunTales$CoatSearch", "missing", "[I", true)
  | 4 => ("SpunTales$CoatSearch", "row", "[I", true)
  | 5 => ("SpunTales$CoatSearch", "best", "[I", true)
  | 6 => ("SpunTales$CoatSearch", "tales", "I", false)
  | 7 => ("SpunTales$CoatSearch", "tellers", "I", false)
  | _ => ("SpunTales$CoatSearch", "bestSize", "I", false)
def tyX0 : Nat → FieldType := fun k => match k with
  | 0 => .array (.array .int)
  | 1 => .array .boolean
  | 2 => .array (.array .int)
  | 3 => .array .int
  | 4 => .array .int
  | 5 => .array .int
  | 6 => .int
  | 7 => .int
  | _ => .int
abbrev wsX00 : List Cond := u_ws RX0 TX0 9
theorem nmX0 : ∀ a, a < 9 → ∀ b, b < 9 → a ≠ b → (TX0 a).2.1 ≠ (TX0 b).2.1 := by decide +kernel
theorem tyX0_ok : ∀ k, k < 9 → parseFieldDescriptor (TX0 k).2.2.1 = some (tyX0 k) := by decide +kernel
abbrev cX0_init : ByteArray := prog_2_method_1_code
def yX0_init : MethodName := ⟨RX0, "<init>", "()V"⟩
abbrev cX0_run : ByteArray := prog_2_method_2_code
def yX0_run : MethodName := ⟨RX0, "run", "(LSpunTales$Hearth;I[I)V"⟩
abbrev cX0_isFound : ByteArray := prog_2_method_3_code
def yX0_isFound : MethodName := ⟨RX0, "isFound", "()Z"⟩
abbrev cX0_place : ByteArray := prog_2_method_4_code
def yX0_place : MethodName := ⟨RX0, "place", "(II)I"⟩
abbrev cX0_spinAll : ByteArray := prog_2_method_5_code
def yX0_spinAll : MethodName := ⟨RX0, "spinAll", "(LSpunTales$Hearth;II)V"⟩
abbrev cX0_isUnlikeEarlier : ByteArray := prog_2_method_6_code
def yX0_isUnlikeEarlier : MethodName := ⟨RX0, "isUnlikeEarlier", "(II)Z"⟩
abbrev cX0_addHope : ByteArray := prog_2_method_7_code
def yX0_addHope : MethodName := ⟨RX0, "addHope", "(I)V"⟩
abbrev cX0_isCovered : ByteArray := prog_2_method_8_code
def yX0_isCovered : MethodName := ⟨RX0, "isCovered", "([I)Z"⟩
abbrev cX0_search : ByteArray := prog_2_method_9_code
def yX0_search : MethodName := ⟨RX0, "search", "(II)V"⟩
abbrev cX0_take : ByteArray := prog_2_method_10_code
def yX0_take : MethodName := ⟨RX0, "take", "(II)V"⟩
def RX1 : String := "SpunTales$Game"
def TX1 : u_T := fun k => match k with
  | 0 => ("SpunTales$Game", "tensions", "[I", true)
  | 1 => ("SpunTales$Game", "length", "I", false)
  | 2 => ("SpunTales$Game", "rests", "I", false)
  | _ => ("SpunTales$Game", "firstRest", "I", false)
def tyX1 : Nat → FieldType := fun k => match k with
  | 0 => .array .int
  | 1 => .int
  | 2 => .int
  | _ => .int
abbrev wsX10 : List Cond := u_ws RX1 TX1 4
theorem nmX1 : ∀ a, a < 4 → ∀ b, b < 4 → a ≠ b → (TX1 a).2.1 ≠ (TX1 b).2.1 := by decide +kernel
theorem tyX1_ok : ∀ k, k < 4 → parseFieldDescriptor (TX1 k).2.2.1 = some (tyX1 k) := by decide +kernel
abbrev cX1_init : ByteArray := prog_3_method_1_code
def yX1_init : MethodName := ⟨RX1, "<init>", "()V"⟩
abbrev cX1_begin : ByteArray := prog_3_method_2_code
def yX1_begin : MethodName := ⟨RX1, "begin", "(LSpunTales$Hearth;II)V"⟩
abbrev cX1_heardUntilGone : ByteArray := prog_3_method_3_code
def yX1_heardUntilGone : MethodName := ⟨RX1, "heardUntilGone", "(I)I"⟩
abbrev cX1_tellerPoints : ByteArray := prog_3_method_4_code
def yX1_tellerPoints : MethodName := ⟨RX1, "tellerPoints", "(II)I"⟩
abbrev cX1_spinnerPoints : ByteArray := prog_3_method_5_code
def yX1_spinnerPoints : MethodName := ⟨RX1, "spinnerPoints", "(II)I"⟩
abbrev cX1_findRests : ByteArray := prog_3_method_6_code
def yX1_findRests : MethodName := ⟨RX1, "findRests", "()V"⟩
abbrev cX1_tellerRests : ByteArray := prog_3_method_7_code
def yX1_tellerRests : MethodName := ⟨RX1, "tellerRests", "(II)Z"⟩
abbrev cX1_spinnerRests : ByteArray := prog_3_method_8_code
def yX1_spinnerRests : MethodName := ⟨RX1, "spinnerRests", "(II)Z"⟩
def RX2 : String := "SpunTales$Hearth"
def TX2 : u_T := fun k => match k with
  | 0 => ("SpunTales$Hearth", "tales", "I", false)
  | 1 => ("SpunTales$Hearth", "tellers", "I", false)
  | 2 => ("SpunTales$Hearth", "spinners", "I", false)
  | 3 => ("SpunTales$Hearth", "evenings", "I", false)
  | 4 => ("SpunTales$Hearth", "memory", "I", false)
  | 5 => ("SpunTales$Hearth", "lengths", "[I", true)
  | 6 => ("SpunTales$Hearth", "tensions", "[[I", true)
  | 7 => ("SpunTales$Hearth", "kinds", "[I", true)
  | 8 => ("SpunTales$Hearth", "yards", "[[I", true)
  | 9 => ("SpunTales$Hearth", "heard", "[[I", true)
  | 10 => ("SpunTales$Hearth", "brokenTale", "I", false)
  | 11 => ("SpunTales$Hearth", "brokenTeller", "I", false)
  | 12 => ("SpunTales$Hearth", "brokenAt", "I", false)
  | _ => ("SpunTales$Hearth", "faithful", "I", false)
def tyX2 : Nat → FieldType := fun k => match k with
  | 0 => .int
  | 1 => .int
  | 2 => .int
  | 3 => .int
  | 4 => .int
  | 5 => .array .int
  | 6 => .array (.array .int)
  | 7 => .array .int
  | 8 => .array (.array .int)
  | 9 => .array (.array .int)
  | 10 => .int
  | 11 => .int
  | 12 => .int
  | _ => .int
abbrev wsX20 : List Cond := u_ws RX2 TX2 14
theorem nmX2 : ∀ a, a < 14 → ∀ b, b < 14 → a ≠ b → (TX2 a).2.1 ≠ (TX2 b).2.1 := by decide +kernel
theorem tyX2_ok : ∀ k, k < 14 → parseFieldDescriptor (TX2 k).2.2.1 = some (tyX2 k) := by decide +kernel
abbrev cX2_init : ByteArray := prog_4_method_1_code
def yX2_init : MethodName := ⟨RX2, "<init>", "()V"⟩
abbrev cX2_hasTale : ByteArray := prog_4_method_2_code
def yX2_hasTale : MethodName := ⟨RX2, "hasTale", "(I)Z"⟩
abbrev cX2_hasSentence : ByteArray := prog_4_method_3_code
def yX2_hasSentence : MethodName := ⟨RX2, "hasSentence", "(II)Z"⟩
abbrev cX2_hasTeller : ByteArray := prog_4_method_4_code
def yX2_hasTeller : MethodName := ⟨RX2, "hasTeller", "(I)Z"⟩
abbrev cX2_hasSpinner : ByteArray := prog_4_method_5_code
def yX2_hasSpinner : MethodName := ⟨RX2, "hasSpinner", "(I)Z"⟩
abbrev cX2_hasAllOf : ByteArray := prog_4_method_6_code
def yX2_hasAllOf : MethodName := ⟨RX2, "hasAllOf", "(I)Z"⟩
abbrev cX2_addTale : ByteArray := prog_4_method_7_code
def yX2_addTale : MethodName := ⟨RX2, "addTale", "([II)I"⟩
abbrev cX2_tensionBy : ByteArray := prog_4_method_8_code
def yX2_tensionBy : MethodName := ⟨RX2, "tensionBy", "(III)I"⟩
abbrev cX2_isInMind : ByteArray := prog_4_method_9_code
def yX2_isInMind : MethodName := ⟨RX2, "isInMind", "(III)Z"⟩
abbrev cX2_spend : ByteArray := prog_4_method_10_code
def yX2_spend : MethodName := ⟨RX2, "spend", "(IIII)I"⟩
abbrev cX2_spin : ByteArray := prog_4_method_11_code
def yX2_spin : MethodName := ⟨RX2, "spin", "([IIIIIZ)V"⟩
abbrev cX2_keepInMind : ByteArray := prog_4_method_12_code
def yX2_keepInMind : MethodName := ⟨RX2, "keepInMind", "(II)V"⟩
abbrev cX2_tangleInto : ByteArray := prog_4_method_13_code
def yX2_tangleInto : MethodName := ⟨RX2, "tangleInto", "([III)I"⟩
abbrev cX2_becomeLike : ByteArray := prog_4_method_14_code
def yX2_becomeLike : MethodName := ⟨RX2, "becomeLike", "(LSpunTales$Hearth;)V"⟩
def RX3 : String := "SpunTales$Passing"
def TX3 : u_T := fun k => match k with
  | 0 => ("SpunTales$Passing", "versions", "[[I", true)
  | 1 => ("SpunTales$Passing", "kinds", "[I", true)
  | 2 => ("SpunTales$Passing", "goal", "[I", true)
  | 3 => ("SpunTales$Passing", "row", "[I", true)
  | 4 => ("SpunTales$Passing", "first", "[I", true)
  | 5 => ("SpunTales$Passing", "tellers", "I", false)
  | 6 => ("SpunTales$Passing", "length", "I", false)
  | 7 => ("SpunTales$Passing", "steps", "I", false)
  | _ => ("SpunTales$Passing", "rows", "I", false)
def tyX3 : Nat → FieldType := fun k => match k with
  | 0 => .array (.array .int)
  | 1 => .array .int
  | 2 => .array .int
  | 3 => .array .int
  | 4 => .array .int
  | 5 => .int
  | 6 => .int
  | 7 => .int
  | _ => .int
abbrev wsX30 : List Cond := u_ws RX3 TX3 9
theorem nmX3 : ∀ a, a < 9 → ∀ b, b < 9 → a ≠ b → (TX3 a).2.1 ≠ (TX3 b).2.1 := by decide +kernel
theorem tyX3_ok : ∀ k, k < 9 → parseFieldDescriptor (TX3 k).2.2.1 = some (tyX3 k) := by decide +kernel
abbrev cX3_init : ByteArray := prog_5_method_1_code
def yX3_init : MethodName := ⟨RX3, "<init>", "()V"⟩
abbrev cX3_run : ByteArray := prog_5_method_2_code
def yX3_run : MethodName := ⟨RX3, "run", "(LSpunTales$Hearth;II[II)V"⟩
abbrev cX3_search : ByteArray := prog_5_method_3_code
def yX3_search : MethodName := ⟨RX3, "search", "(I)V"⟩
abbrev cX3_keepRow : ByteArray := prog_5_method_4_code
def yX3_keepRow : MethodName := ⟨RX3, "keepRow", "()V"⟩
def RX4 : String := "SpunTales$RowReading"
def TX4 : u_T := fun k => match k with
  | 0 => ("SpunTales$RowReading", "ways", "[I", true)
  | 1 => ("SpunTales$RowReading", "first", "[I", true)
  | 2 => ("SpunTales$RowReading", "rows", "I", false)
  | _ => ("SpunTales$RowReading", "firstSize", "I", false)
def tyX4 : Nat → FieldType := fun k => match k with
  | 0 => .array .int
  | 1 => .array .int
  | 2 => .int
  | _ => .int
abbrev wsX40 : List Cond := u_ws RX4 TX4 4
theorem nmX4 : ∀ a, a < 4 → ∀ b, b < 4 → a ≠ b → (TX4 a).2.1 ≠ (TX4 b).2.1 := by decide +kernel
theorem tyX4_ok : ∀ k, k < 4 → parseFieldDescriptor (TX4 k).2.2.1 = some (tyX4 k) := by decide +kernel
abbrev cX4_init : ByteArray := prog_6_method_1_code
def yX4_init : MethodName := ⟨RX4, "<init>", "()V"⟩
abbrev cX4_run : ByteArray := prog_6_method_2_code
def yX4_run : MethodName := ⟨RX4, "run", "(LSpunTales$Hearth;[II)V"⟩
abbrev cX4_sentencesOf : ByteArray := prog_6_method_3_code
def yX4_sentencesOf : MethodName := ⟨RX4, "sentencesOf", "(LSpunTales$Hearth;I)I"⟩
abbrev cX4_waysOn : ByteArray := prog_6_method_4_code
def yX4_waysOn : MethodName := ⟨RX4, "waysOn", "(LSpunTales$Hearth;[IIII)I"⟩
abbrev cX4_fits : ByteArray := prog_6_method_5_code
def yX4_fits : MethodName := ⟨RX4, "fits", "(LSpunTales$Hearth;I[III)Z"⟩
abbrev cX4_followFirst : ByteArray := prog_6_method_6_code
def yX4_followFirst : MethodName := ⟨RX4, "followFirst", "(LSpunTales$Hearth;[II)V"⟩
abbrev cX4_firstOn : ByteArray := prog_6_method_7_code
def yX4_firstOn : MethodName := ⟨RX4, "firstOn", "(LSpunTales$Hearth;[IIII)I"⟩
def RX5 : String := "SpunTales$Sheet"
def TX5 : u_T := fun k => match k with
  | 0 => ("SpunTales$Sheet", "lane", "I", false)
  | 1 => ("SpunTales$Sheet", "size", "I", false)
  | _ => ("SpunTales$Sheet", "items", "[I", true)
def tyX5 : Nat → FieldType := fun k => match k with
  | 0 => .int
  | 1 => .int
  | _ => .array .int
abbrev wsX50 : List Cond := u_ws RX5 TX5 3
theorem nmX5 : ∀ a, a < 3 → ∀ b, b < 3 → a ≠ b → (TX5 a).2.1 ≠ (TX5 b).2.1 := by decide +kernel
theorem tyX5_ok : ∀ k, k < 3 → parseFieldDescriptor (TX5 k).2.2.1 = some (tyX5 k) := by decide +kernel
abbrev cX5_init : ByteArray := prog_7_method_1_code
def yX5_init : MethodName := ⟨RX5, "<init>", "()V"⟩
abbrev cX5_begin : ByteArray := prog_7_method_2_code
def yX5_begin : MethodName := ⟨RX5, "begin", "(II)V"⟩
abbrev cX5_hasItems : ByteArray := prog_7_method_3_code
def yX5_hasItems : MethodName := ⟨RX5, "hasItems", "(II)Z"⟩
abbrev cX5_refusal : ByteArray := prog_7_method_4_code
def yX5_refusal : MethodName := ⟨RX5, "refusal", "(III)I"⟩
abbrev cX5_put : ByteArray := prog_7_method_5_code
def yX5_put : MethodName := ⟨RX5, "put", "(IJ)V"⟩
def RX6 : String := "SpunTales$StoreSearch"
def TX6 : u_T := fun k => match k with
  | 0 => ("SpunTales$StoreSearch", "fresh", "[I", true)
  | 1 => ("SpunTales$StoreSearch", "stale", "[I", true)
  | 2 => ("SpunTales$StoreSearch", "heard", "[I", true)
  | 3 => ("SpunTales$StoreSearch", "row", "[I", true)
  | 4 => ("SpunTales$StoreSearch", "best", "[I", true)
  | 5 => ("SpunTales$StoreSearch", "tales", "I", false)
  | 6 => ("SpunTales$StoreSearch", "evenings", "I", false)
  | 7 => ("SpunTales$StoreSearch", "nextEvening", "I", false)
  | 8 => ("SpunTales$StoreSearch", "memory", "I", false)
  | 9 => ("SpunTales$StoreSearch", "freshest", "I", false)
  | _ => ("SpunTales$StoreSearch", "bestSum", "I", false)
def tyX6 : Nat → FieldType := fun k => match k with
  | 0 => .array .int
  | 1 => .array .int
  | 2 => .array .int
  | 3 => .array .int
  | 4 => .array .int
  | 5 => .int
  | 6 => .int
  | 7 => .int
  | 8 => .int
  | 9 => .int
  | _ => .int
abbrev wsX60 : List Cond := u_ws RX6 TX6 11
theorem nmX6 : ∀ a, a < 11 → ∀ b, b < 11 → a ≠ b → (TX6 a).2.1 ≠ (TX6 b).2.1 := by decide +kernel
theorem tyX6_ok : ∀ k, k < 11 → parseFieldDescriptor (TX6 k).2.2.1 = some (tyX6 k) := by decide +kernel
abbrev cX6_init : ByteArray := prog_8_method_1_code
def yX6_init : MethodName := ⟨RX6, "<init>", "()V"⟩
abbrev cX6_run : ByteArray := prog_8_method_2_code
def yX6_run : MethodName := ⟨RX6, "run", "(LSpunTales$Hearth;II)V"⟩
abbrev cX6_weigh : ByteArray := prog_8_method_3_code
def yX6_weigh : MethodName := ⟨RX6, "weigh", "(LSpunTales$Hearth;I)V"⟩
abbrev cX6_search : ByteArray := prog_8_method_4_code
def yX6_search : MethodName := ⟨RX6, "search", "(II)V"⟩
def RX7 : String := "SpunTales$Tape"
def TX7 : u_T := fun k => match k with
  | 0 => ("SpunTales$Tape", "signs", "[I", true)
  | _ => ("SpunTales$Tape", "size", "I", false)
def tyX7 : Nat → FieldType := fun k => match k with
  | 0 => .array .int
  | _ => .int
abbrev wsX70 : List Cond := u_ws RX7 TX7 2
theorem nmX7 : ∀ a, a < 2 → ∀ b, b < 2 → a ≠ b → (TX7 a).2.1 ≠ (TX7 b).2.1 := by decide +kernel
theorem tyX7_ok : ∀ k, k < 2 → parseFieldDescriptor (TX7 k).2.2.1 = some (tyX7 k) := by decide +kernel
abbrev cX7_init : ByteArray := prog_9_method_1_code
def yX7_init : MethodName := ⟨RX7, "<init>", "()V"⟩
abbrev cX7_append : ByteArray := prog_9_method_2_code
def yX7_append : MethodName := ⟨RX7, "append", "(I)V"⟩
abbrev cX7_parseInto : ByteArray := prog_9_method_3_code
def yX7_parseInto : MethodName := ⟨RX7, "parseInto", "([I)I"⟩
def RX8 : String := "SpunTales"
def TX8 : u_T := fun k => match k with
  | 0 => ("SpunTales", "hearth", "LSpunTales$Hearth;", true)
  | 1 => ("SpunTales", "kept", "LSpunTales$Hearth;", true)
  | 2 => ("SpunTales", "imageIsKept", "Z", false)
  | 3 => ("SpunTales", "tape", "LSpunTales$Tape;", true)
  | 4 => ("SpunTales", "sheets", "[LSpunTales$Sheet;", true)
  | 5 => ("SpunTales", "taken", "[I", true)
  | 6 => ("SpunTales", "tangled", "[I", true)
  | 7 => ("SpunTales", "storeSearch", "LSpunTales$StoreSearch;", true)
  | 8 => ("SpunTales", "coatSearch", "LSpunTales$CoatSearch;", true)
  | 9 => ("SpunTales", "rowReading", "LSpunTales$RowReading;", true)
  | 10 => ("SpunTales", "passing", "LSpunTales$Passing;", true)
  | _ => ("SpunTales", "game", "LSpunTales$Game;", true)
def tyX8 : Nat → FieldType := fun k => match k with
  | 0 => .object "SpunTales$Hearth"
  | 1 => .object "SpunTales$Hearth"
  | 2 => .boolean
  | 3 => .object "SpunTales$Tape"
  | 4 => .array (.object "SpunTales$Sheet")
  | 5 => .array .int
  | 6 => .array .int
  | 7 => .object "SpunTales$StoreSearch"
  | 8 => .object "SpunTales$CoatSearch"
  | 9 => .object "SpunTales$RowReading"
  | 10 => .object "SpunTales$Passing"
  | _ => .object "SpunTales$Game"
abbrev wsX80 : List Cond := u_ws RX8 TX8 12
theorem nmX8 : ∀ a, a < 12 → ∀ b, b < 12 → a ≠ b → (TX8 a).2.1 ≠ (TX8 b).2.1 := by decide +kernel
theorem tyX8_ok : ∀ k, k < 12 → parseFieldDescriptor (TX8 k).2.2.1 = some (tyX8 k) := by decide +kernel
abbrev cX8_init : ByteArray := prog_1_method_1_code
def yX8_init : MethodName := ⟨RX8, "<init>", "()V"⟩
abbrev cX8_type : ByteArray := prog_1_method_2_code
def yX8_type : MethodName := ⟨RX8, "type", "(JI)I"⟩
abbrev cX8_tale : ByteArray := prog_1_method_3_code
def yX8_tale : MethodName := ⟨RX8, "tale", "()I"⟩
abbrev cX8_change : ByteArray := prog_1_method_4_code
def yX8_change : MethodName := ⟨RX8, "change", "(III)I"⟩
abbrev cX8_teller : ByteArray := prog_1_method_5_code
def yX8_teller : MethodName := ⟨RX8, "teller", "(I)I"⟩
abbrev cX8_spinner : ByteArray := prog_1_method_6_code
def yX8_spinner : MethodName := ⟨RX8, "spinner", "()I"⟩
abbrev cX8_memory : ByteArray := prog_1_method_7_code
def yX8_memory : MethodName := ⟨RX8, "memory", "(I)I"⟩
abbrev cX8_told : ByteArray := prog_1_method_8_code
def yX8_told : MethodName := ⟨RX8, "told", "(II)I"⟩
abbrev cX8_tells : ByteArray := prog_1_method_9_code
def yX8_tells : MethodName := ⟨RX8, "tells", "(III)I"⟩
abbrev cX8_yards : ByteArray := prog_1_method_10_code
def yX8_yards : MethodName := ⟨RX8, "yards", "(II)I"⟩
abbrev cX8_use : ByteArray := prog_1_method_11_code
def yX8_use : MethodName := ⟨RX8, "use", "(III)I"⟩
abbrev cX8_mind : ByteArray := prog_1_method_12_code
def yX8_mind : MethodName := ⟨RX8, "mind", "(I)I"⟩
abbrev cX8_count : ByteArray := prog_1_method_13_code
def yX8_count : MethodName := ⟨RX8, "count", "(I)I"⟩
abbrev cX8_evening : ByteArray := prog_1_method_14_code
def yX8_evening : MethodName := ⟨RX8, "evening", "(IIII)I"⟩
abbrev cX8_store : ByteArray := prog_1_method_15_code
def yX8_store : MethodName := ⟨RX8, "store", "(III)I"⟩
abbrev cX8_play : ByteArray := prog_1_method_16_code
def yX8_play : MethodName := ⟨RX8, "play", "(IIIII)I"⟩
abbrev cX8_rests : ByteArray := prog_1_method_17_code
def yX8_rests : MethodName := ⟨RX8, "rests", "(III)I"⟩
abbrev cX8_image : ByteArray := prog_1_method_18_code
def yX8_image : MethodName := ⟨RX8, "image", "()I"⟩
abbrev cX8_restore : ByteArray := prog_1_method_19_code
def yX8_restore : MethodName := ⟨RX8, "restore", "()I"⟩
abbrev cX8_coat : ByteArray := prog_1_method_20_code
def yX8_coat : MethodName := ⟨RX8, "coat", "(IIIII)I"⟩
abbrev cX8_read : ByteArray := prog_1_method_21_code
def yX8_read : MethodName := ⟨RX8, "read", "(IIIII)I"⟩
abbrev cX8_untangle : ByteArray := prog_1_method_22_code
def yX8_untangle : MethodName := ⟨RX8, "untangle", "(IIIII)I"⟩
abbrev cX8_tangle : ByteArray := prog_1_method_23_code
def yX8_tangle : MethodName := ⟨RX8, "tangle", "(IIIII)I"⟩
abbrev cX8_passed : ByteArray := prog_1_method_24_code
def yX8_passed : MethodName := ⟨RX8, "passed", "(IIIIIII)I"⟩
abbrev cX8_sheet : ByteArray := prog_1_method_25_code
def yX8_sheet : MethodName := ⟨RX8, "sheet", "(III)I"⟩
abbrev cX8_drop : ByteArray := prog_1_method_26_code
def yX8_drop : MethodName := ⟨RX8, "drop", "(I)I"⟩
abbrev cX8_item : ByteArray := prog_1_method_27_code
def yX8_item : MethodName := ⟨RX8, "item", "(IIIJ)I"⟩
abbrev cX8_copy : ByteArray := prog_1_method_28_code
def yX8_copy : MethodName := ⟨RX8, "copy", "(IIIII)I"⟩
abbrev cX8_isWithin : ByteArray := prog_1_method_29_code
def yX8_isWithin : MethodName := ⟨RX8, "isWithin", "(III)Z"⟩
abbrev cX8_isSort : ByteArray := prog_1_method_30_code
def yX8_isSort : MethodName := ⟨RX8, "isSort", "(I)Z"⟩
abbrev cX8_isSheet : ByteArray := prog_1_method_31_code
def yX8_isSheet : MethodName := ⟨RX8, "isSheet", "(I)Z"⟩
abbrev cX8_isSheetOfLane : ByteArray := prog_1_method_32_code
def yX8_isSheetOfLane : MethodName := ⟨RX8, "isSheetOfLane", "(II)Z"⟩
abbrev cX8_byteOf : ByteArray := prog_1_method_33_code
def yX8_byteOf : MethodName := ⟨RX8, "byteOf", "(JI)I"⟩
abbrev cX8_sortOf : ByteArray := prog_1_method_34_code
def yX8_sortOf : MethodName := ⟨RX8, "sortOf", "(I)I"⟩
abbrev cX8_duller : ByteArray := prog_1_method_35_code
def yX8_duller : MethodName := ⟨RX8, "duller", "(I)I"⟩
abbrev cX8_isRemembered : ByteArray := prog_1_method_36_code
def yX8_isRemembered : MethodName := ⟨RX8, "isRemembered", "(III)Z"⟩
abbrev cX8_areSame : ByteArray := prog_1_method_37_code
def yX8_areSame : MethodName := ⟨RX8, "areSame", "([I[II)Z"⟩
abbrev cX8_asToldBy : ByteArray := prog_1_method_38_code
def yX8_asToldBy : MethodName := ⟨RX8, "asToldBy", "(II)I"⟩
abbrev cX8_retell : ByteArray := prog_1_method_39_code
def yX8_retell : MethodName := ⟨RX8, "retell", "(I[I[II)V"⟩
abbrev cX8_firstOrCount : ByteArray := prog_1_method_40_code
def yX8_firstOrCount : MethodName := ⟨RX8, "firstOrCount", "(III)I"⟩
abbrev cX8_takeItems : ByteArray := prog_1_method_41_code
def yX8_takeItems : MethodName := ⟨RX8, "takeItems", "(IIIII)I"⟩
abbrev cX8_areTangledTo : ByteArray := prog_1_method_42_code
def yX8_areTangledTo : MethodName := ⟨RX8, "areTangledTo", "(III)Z"⟩
def RX9 : String := "SpunTalesModel"
def TX9 : u_T := fun k => match k with
  | 0 => ("SpunTalesModel", "now", "[I", true)
  | 1 => ("SpunTalesModel", "then", "[I", true)
  | 2 => ("SpunTalesModel", "isKept", "Z", false)
  | 3 => ("SpunTalesModel", "tape", "[I", true)
  | 4 => ("SpunTalesModel", "taped", "I", false)
  | 5 => ("SpunTalesModel", "sizes", "[I", true)
  | 6 => ("SpunTalesModel", "lanes", "[I", true)
  | 7 => ("SpunTalesModel", "items", "[I", true)
  | 8 => ("SpunTalesModel", "row", "[I", true)
  | 9 => ("SpunTalesModel", "best", "[I", true)
  | 10 => ("SpunTalesModel", "heard", "[I", true)
  | 11 => ("SpunTalesModel", "spins", "[I", true)
  | 12 => ("SpunTalesModel", "has", "[I", true)
  | 13 => ("SpunTalesModel", "tangled", "[I", true)
  | 14 => ("SpunTalesModel", "goes", "[I", true)
  | _ => ("SpunTalesModel", "came", "[I", true)
def tyX9 : Nat → FieldType := fun k => match k with
  | 0 => .array .int
  | 1 => .array .int
  | 2 => .boolean
  | 3 => .array .int
  | 4 => .int
  | 5 => .array .int
  | 6 => .array .int
  | 7 => .array .int
  | 8 => .array .int
  | 9 => .array .int
  | 10 => .array .int
  | 11 => .array .int
  | 12 => .array .int
  | 13 => .array .int
  | 14 => .array .int
  | _ => .array .int
abbrev wsX90 : List Cond := u_ws RX9 TX9 16
theorem nmX9 : ∀ a, a < 16 → ∀ b, b < 16 → a ≠ b → (TX9 a).2.1 ≠ (TX9 b).2.1 := by decide +kernel
theorem tyX9_ok : ∀ k, k < 16 → parseFieldDescriptor (TX9 k).2.2.1 = some (tyX9 k) := by decide +kernel
abbrev cX9_init : ByteArray := prog_11_method_1_code
def yX9_init : MethodName := ⟨RX9, "<init>", "()V"⟩
abbrev cX9_in : ByteArray := prog_11_method_3_code
def yX9_in : MethodName := ⟨RX9, "in", "(JJJ)Z"⟩
abbrev cX9_isTale : ByteArray := prog_11_method_4_code
def yX9_isTale : MethodName := ⟨RX9, "isTale", "(I)Z"⟩
abbrev cX9_isTeller : ByteArray := prog_11_method_5_code
def yX9_isTeller : MethodName := ⟨RX9, "isTeller", "(I)Z"⟩
abbrev cX9_isSpinner : ByteArray := prog_11_method_6_code
def yX9_isSpinner : MethodName := ⟨RX9, "isSpinner", "(I)Z"⟩
abbrev cX9_type : ByteArray := prog_11_method_7_code
def yX9_type : MethodName := ⟨RX9, "type", "(JI)I"⟩
abbrev cX9_tale : ByteArray := prog_11_method_8_code
def yX9_tale : MethodName := ⟨RX9, "tale", "()I"⟩
abbrev cX9_isSentence : ByteArray := prog_11_method_9_code
def yX9_isSentence : MethodName := ⟨RX9, "isSentence", "(II)Z"⟩
abbrev cX9_change : ByteArray := prog_11_method_10_code
def yX9_change : MethodName := ⟨RX9, "change", "(III)I"⟩
abbrev cX9_teller : ByteArray := prog_11_method_11_code
def yX9_teller : MethodName := ⟨RX9, "teller", "(I)I"⟩
abbrev cX9_spinner : ByteArray := prog_11_method_12_code
def yX9_spinner : MethodName := ⟨RX9, "spinner", "()I"⟩
abbrev cX9_memory : ByteArray := prog_11_method_13_code
def yX9_memory : MethodName := ⟨RX9, "memory", "(I)I"⟩
abbrev cX9_told : ByteArray := prog_11_method_14_code
def yX9_told : MethodName := ⟨RX9, "told", "(II)I"⟩
abbrev cX9_by : ByteArray := prog_11_method_15_code
def yX9_by : MethodName := ⟨RX9, "by", "(II)I"⟩
abbrev cX9_tellsIt : ByteArray := prog_11_method_16_code
def yX9_tellsIt : MethodName := ⟨RX9, "tellsIt", "(III)I"⟩
abbrev cX9_tells : ByteArray := prog_11_method_17_code
def yX9_tells : MethodName := ⟨RX9, "tells", "(III)I"⟩
abbrev cX9_yards : ByteArray := prog_11_method_18_code
def yX9_yards : MethodName := ⟨RX9, "yards", "(II)I"⟩
abbrev cX9_use : ByteArray := prog_11_method_19_code
def yX9_use : MethodName := ⟨RX9, "use", "(III)I"⟩
abbrev cX9_sortOf : ByteArray := prog_11_method_20_code
def yX9_sortOf : MethodName := ⟨RX9, "sortOf", "(I)I"⟩
abbrev cX9_isMind : ByteArray := prog_11_method_21_code
def yX9_isMind : MethodName := ⟨RX9, "isMind", "(II)Z"⟩
abbrev cX9_hasMind : ByteArray := prog_11_method_22_code
def yX9_hasMind : MethodName := ⟨RX9, "hasMind", "(III)Z"⟩
abbrev cX9_mind : ByteArray := prog_11_method_23_code
def yX9_mind : MethodName := ⟨RX9, "mind", "(I)I"⟩
abbrev cX9_count : ByteArray := prog_11_method_24_code
def yX9_count : MethodName := ⟨RX9, "count", "(I)I"⟩
abbrev cX9_evening : ByteArray := prog_11_method_25_code
def yX9_evening : MethodName := ⟨RX9, "evening", "(IIII)I"⟩
abbrev cX9_sortsBy : ByteArray := prog_11_method_26_code
def yX9_sortsBy : MethodName := ⟨RX9, "sortsBy", "(II)I"⟩
abbrev cX9_store : ByteArray := prog_11_method_27_code
def yX9_store : MethodName := ⟨RX9, "store", "(III)I"⟩
abbrev cX9_points : ByteArray := prog_11_method_28_code
def yX9_points : MethodName := ⟨RX9, "points", "(IIIII)I"⟩
abbrev cX9_play : ByteArray := prog_11_method_29_code
def yX9_play : MethodName := ⟨RX9, "play", "(IIIII)I"⟩
abbrev cX9_rests : ByteArray := prog_11_method_30_code
def yX9_rests : MethodName := ⟨RX9, "rests", "(III)I"⟩
abbrev cX9_image : ByteArray := prog_11_method_31_code
def yX9_image : MethodName := ⟨RX9, "image", "()I"⟩
abbrev cX9_restore : ByteArray := prog_11_method_32_code
def yX9_restore : MethodName := ⟨RX9, "restore", "()I"⟩
abbrev cX9_isSheet : ByteArray := prog_11_method_33_code
def yX9_isSheet : MethodName := ⟨RX9, "isSheet", "(II)Z"⟩
abbrev cX9_found : ByteArray := prog_11_method_34_code
def yX9_found : MethodName := ⟨RX9, "found", "(IIII)I"⟩
abbrev cX9_barred : ByteArray := prog_11_method_35_code
def yX9_barred : MethodName := ⟨RX9, "barred", "(IIIII)I"⟩
abbrev cX9_measures : ByteArray := prog_11_method_36_code
def yX9_measures : MethodName := ⟨RX9, "measures", "(I)V"⟩
abbrev cX9_isCoat : ByteArray := prog_11_method_37_code
def yX9_isCoat : MethodName := ⟨RX9, "isCoat", "(II)Z"⟩
abbrev cX9_after : ByteArray := prog_11_method_38_code
def yX9_after : MethodName := ⟨RX9, "after", "(I)I"⟩
abbrev cX9_finds : ByteArray := prog_11_method_39_code
def yX9_finds : MethodName := ⟨RX9, "finds", "(II)Z"⟩
abbrev cX9_coat : ByteArray := prog_11_method_40_code
def yX9_coat : MethodName := ⟨RX9, "coat", "(IIIII)I"⟩
abbrev cX9_isSo : ByteArray := prog_11_method_41_code
def yX9_isSo : MethodName := ⟨RX9, "isSo", "(III)Z"⟩
abbrev cX9_read : ByteArray := prog_11_method_42_code
def yX9_read : MethodName := ⟨RX9, "read", "(IIIII)I"⟩
abbrev cX9_tangles : ByteArray := prog_11_method_43_code
def yX9_tangles : MethodName := ⟨RX9, "tangles", "(II)I"⟩
abbrev cX9_untangle : ByteArray := prog_11_method_44_code
def yX9_untangle : MethodName := ⟨RX9, "untangle", "(IIIII)I"⟩
abbrev cX9_tangle : ByteArray := prog_11_method_45_code
def yX9_tangle : MethodName := ⟨RX9, "tangle", "(IIIII)I"⟩
abbrev cX9_becomes : ByteArray := prog_11_method_46_code
def yX9_becomes : MethodName := ⟨RX9, "becomes", "(IIIII)Z"⟩
abbrev cX9_passed : ByteArray := prog_11_method_47_code
def yX9_passed : MethodName := ⟨RX9, "passed", "(IIIIIII)I"⟩
abbrev cX9_sheet : ByteArray := prog_11_method_48_code
def yX9_sheet : MethodName := ⟨RX9, "sheet", "(III)I"⟩
abbrev cX9_drop : ByteArray := prog_11_method_49_code
def yX9_drop : MethodName := ⟨RX9, "drop", "(I)I"⟩
abbrev cX9_item : ByteArray := prog_11_method_50_code
def yX9_item : MethodName := ⟨RX9, "item", "(IIIJ)I"⟩
abbrev cX9_copy : ByteArray := prog_11_method_51_code
def yX9_copy : MethodName := ⟨RX9, "copy", "(IIIII)I"⟩
def RJ6 : String := "java/lang/Integer"
def TJ6 : u_T := fun k => match k with
  | _ => ("", "", "", false)
def tyJ6 : Nat → FieldType := fun k => match k with
  | _ => .int
abbrev wsJ60 : List Cond := u_ws RJ6 TJ6 0
theorem nmJ6 : ∀ a, a < 0 → ∀ b, b < 0 → a ≠ b → (TJ6 a).2.1 ≠ (TJ6 b).2.1 := by decide +kernel
theorem tyJ6_ok : ∀ k, k < 0 → parseFieldDescriptor (TJ6 k).2.2.1 = some (tyJ6 k) := by decide +kernel
abbrev cJ6_bitCount_0f7a4 : ByteArray := prog_12_method_49_code
def yJ6_bitCount_0f7a4 : MethodName := ⟨RJ6, "bitCount", "(I)I"⟩
def RJ9 : String := "java/lang/Math"
def TJ9 : u_T := fun k => match k with
  | _ => ("", "", "", false)
def tyJ9 : Nat → FieldType := fun k => match k with
  | _ => .int
abbrev wsJ90 : List Cond := u_ws RJ9 TJ9 0
theorem nmJ9 : ∀ a, a < 0 → ∀ b, b < 0 → a ≠ b → (TJ9 a).2.1 ≠ (TJ9 b).2.1 := by decide +kernel
theorem tyJ9_ok : ∀ k, k < 0 → parseFieldDescriptor (TJ9 k).2.2.1 = some (tyJ9 k) := by decide +kernel
abbrev cJ9_max_7cf53 : ByteArray := prog_13_method_65_code
def yJ9_max_7cf53 : MethodName := ⟨RJ9, "max", "(II)I"⟩
abbrev cJ9_min_7cf53 : ByteArray := prog_13_method_69_code
def yJ9_min_7cf53 : MethodName := ⟨RJ9, "min", "(II)I"⟩
def RJ10 : String := "java/lang/System"
def TJ10 : u_T := fun k => match k with
  | _ => ("", "", "", false)
def tyJ10 : Nat → FieldType := fun k => match k with
  | _ => .int
abbrev wsJ100 : List Cond := u_ws RJ10 TJ10 0
theorem nmJ10 : ∀ a, a < 0 → ∀ b, b < 0 → a ≠ b → (TJ10 a).2.1 ≠ (TJ10 b).2.1 := by decide +kernel
theorem tyJ10_ok : ∀ k, k < 0 → parseFieldDescriptor (TJ10 k).2.2.1 = some (tyJ10 k) := by decide +kernel
def RL : String := "SpunTalesLaw"
abbrev cL_law : ByteArray := code
def yL_law : MethodName := ⟨RL, "law", "([I)Z"⟩
abbrev vwCl : List vw_C := [(RX0, TX0, 9), (RX1, TX1, 4), (RX2, TX2, 14), (RX3, TX3, 9), (RX4, TX4, 4), (RX5, TX5, 3), (RX6, TX6, 11), (RX7, TX7, 2), (RX8, TX8, 12), (RX9, TX9, 16)]
end
section
theorem dX0_init_0 : decode cX0_init 0 = .ok (.aload_n 0, 1) := by decide +kernel
theorem dX0_init_1 : decode cX0_init 1 = .ok (.invokespecial 3, 3) := by decide +kernel
theorem dX0_init_4 : decode cX0_init 4 = .ok (.aload_n 0, 1) := by decide +kernel
theorem dX0_init_5 : decode cX0_init 5 = .ok (.bipush 32, 2) := by decide +kernel
theorem dX0_init_7 : decode cX0_init 7 = .ok (.iconst 4, 1) := by decide +kernel
theorem dX0_init_8 : decode cX0_init 8 = .ok (.multianewarray 9 2, 4) := by decide +kernel
theorem dX0_init_12 : decode cX0_init 12 = .ok (.putfield 11, 3) := by decide +kernel
theorem dX0_init_15 : decode cX0_init 15 = .ok (.aload_n 0, 1) := by decide +kernel
theorem dX0_init_16 : decode cX0_init 16 = .ok (.bipush 32, 2) := by decide +kernel
theorem dX0_init_18 : decode cX0_init 18 = .ok (.newarray .boolean, 2) := by decide +kernel
theorem dX0_init_20 : decode cX0_init 20 = .ok (.putfield 16, 3) := by decide +kernel
theorem dX0_init_23 : decode cX0_init 23 = .ok (.aload_n 0, 1) := by decide +kernel
theorem dX0_init_24 : decode cX0_init 24 = .ok (.bipush 9, 2) := by decide +kernel
theorem dX0_init_26 : decode cX0_init 26 = .ok (.iconst 4, 1) := by decide +kernel
theorem dX0_init_27 : decode cX0_init 27 = .ok (.multianewarray 9 2, 4) := by decide +kernel
theorem dX0_init_31 : decode cX0_init 31 = .ok (.putfield 20, 3) := by decide +kernel
theorem dX0_init_34 : decode cX0_init 34 = .ok (.aload_n 0, 1) := by decide +kernel
theorem dX0_init_35 : decode cX0_init 35 = .ok (.iconst 4, 1) := by decide +kernel
theorem dX0_init_36 : decode cX0_init 36 = .ok (.newarray .int, 2) := by decide +kernel
theorem dX0_init_38 : decode cX0_init 38 = .ok (.putfield 23, 3) := by decide +kernel
theorem dX0_init_41 : decode cX0_init 41 = .ok (.aload_n 0, 1) := by decide +kernel
theorem dX0_init_42 : decode cX0_init 42 = .ok (.bipush 8, 2) := by decide +kernel
theorem dX0_init_44 : decode cX0_init 44 = .ok (.newarray .int, 2) := by decide +kernel
theorem dX0_init_46 : decode cX0_init 46 = .ok (.putfield 27, 3) := by decide +kernel
theorem dX0_init_49 : decode cX0_init 49 = .ok (.aload_n 0, 1) := by decide +kernel
theorem dX0_init_50 : decode cX0_init 50 = .ok (.bipush 8, 2) := by decide +kernel
theorem dX0_init_52 : decode cX0_init 52 = .ok (.newarray .int, 2) := by decide +kernel
theorem dX0_init_54 : decode cX0_init 54 = .ok (.putfield 30, 3) := by decide +kernel
theorem dX0_init_57 : decode cX0_init 57 = .ok (.return_, 1) := by decide +kernel
theorem dX0_run_0 : decode cX0_run 0 = .ok (.aload_n 0, 1) := by decide +kernel
theorem dX0_run_1 : decode cX0_run 1 = .ok (.aload_n 1, 1) := by decide +kernel
theorem dX0_run_2 : decode cX0_run 2 = .ok (.getfield 33, 3) := by decide +kernel
theorem dX0_run_5 : decode cX0_run 5 = .ok (.putfield 39, 3) := by decide +kernel
theorem dX0_run_8 : decode cX0_run 8 = .ok (.aload_n 0, 1) := by decide +kernel
theorem dX0_run_9 : decode cX0_run 9 = .ok (.aload_n 1, 1) := by decide +kernel
theorem dX0_run_10 : decode cX0_run 10 = .ok (.getfield 40, 3) := by decide +kernel
theorem dX0_run_13 : decode cX0_run 13 = .ok (.putfield 43, 3) := by decide +kernel
theorem dX0_run_16 : decode cX0_run 16 = .ok (.aload_n 0, 1) := by decide +kernel
theorem dX0_run_17 : decode cX0_run 17 = .ok (.bipush 9, 2) := by decide +kernel
theorem dX0_run_19 : decode cX0_run 19 = .ok (.putfield 44, 3) := by decide +kernel
theorem dX0_run_22 : decode cX0_run 22 = .ok (.iconst 0, 1) := by decide +kernel
theorem dX0_run_23 : decode cX0_run 23 = .ok (.istore 4, 2) := by decide +kernel
theorem dX0_run_25 : decode cX0_run 25 = .ok (.iload 4, 2) := by decide +kernel
theorem dX0_run_27 : decode cX0_run 27 = .ok (.iconst 4, 1) := by decide +kernel
theorem dX0_run_28 : decode cX0_run 28 = .ok (.if_icmp .ge 33, 3) := by decide +kernel
theorem dX0_run_31 : decode cX0_run 31 = .ok (.aload_n 0, 1) := by decide +kernel
theorem dX0_run_32 : decode cX0_run 32 = .ok (.getfield 23, 3) := by decide +kernel
theorem dX0_run_35 : decode cX0_run 35 = .ok (.iload 4, 2) := by decide +kernel
theorem dX0_run_37 : decode cX0_run 37 = .ok (.aload_n 3, 1) := by decide +kernel
theorem dX0_run_38 : decode cX0_run 38 = .ok (.iload 4, 2) := by decide +kernel
theorem dX0_run_40 : decode cX0_run 40 = .ok (.iaload, 1) := by decide +kernel
theorem dX0_run_41 : decode cX0_run 41 = .ok (.iastore, 1) := by decide +kernel
theorem dX0_run_42 : decode cX0_run 42 = .ok (.aload_n 0, 1) := by decide +kernel
theorem dX0_run_43 : decode cX0_run 43 = .ok (.getfield 20, 3) := by decide +kernel
theorem dX0_run_46 : decode cX0_run 46 = .ok (.aload_n 0, 1) := by decide +kernel
theorem dX0_run_47 : decode cX0_run 47 = .ok (.getfield 39, 3) := by decide +kernel
theorem dX0_run_50 : decode cX0_run 50 = .ok (.aaload, 1) := by decide +kernel
theorem dX0_run_51 : decode cX0_run 51 = .ok (.iload 4, 2) := by decide +kernel
theorem dX0_run_53 : decode cX0_run 53 = .ok (.iconst 0, 1) := by decide +kernel
theorem dX0_run_54 : decode cX0_run 54 = .ok (.iastore, 1) := by decide +kernel
theorem dX0_run_55 : decode cX0_run 55 = .ok (.iinc 4 1, 3) := by decide +kernel
theorem dX0_run_58 : decode cX0_run 58 = .ok (.goto (-33), 3) := by decide +kernel
theorem dX0_run_61 : decode cX0_run 61 = .ok (.aload_n 0, 1) := by decide +kernel
theorem dX0_run_62 : decode cX0_run 62 = .ok (.getfield 39, 3) := by decide +kernel
theorem dX0_run_65 : decode cX0_run 65 = .ok (.iconst 1, 1) := by decide +kernel
theorem dX0_run_66 : decode cX0_run 66 = .ok (.isub, 1) := by decide +kernel
theorem dX0_run_67 : decode cX0_run 67 = .ok (.istore 4, 2) := by decide +kernel
theorem dX0_run_69 : decode cX0_run 69 = .ok (.iload 4, 2) := by decide +kernel
theorem dX0_run_71 : decode cX0_run 71 = .ok (.ifCond .lt 23, 3) := by decide +kernel
theorem dX0_run_74 : decode cX0_run 74 = .ok (.aload_n 0, 1) := by decide +kernel
theorem dX0_run_75 : decode cX0_run 75 = .ok (.aload_n 1, 1) := by decide +kernel
theorem dX0_run_76 : decode cX0_run 76 = .ok (.iload_n 2, 1) := by decide +kernel
theorem dX0_run_77 : decode cX0_run 77 = .ok (.iload 4, 2) := by decide +kernel
theorem dX0_run_79 : decode cX0_run 79 = .ok (.invokevirtual 47, 3) := by decide +kernel
theorem dX0_run_82 : decode cX0_run 82 = .ok (.aload_n 0, 1) := by decide +kernel
theorem dX0_run_83 : decode cX0_run 83 = .ok (.iload 4, 2) := by decide +kernel
theorem dX0_run_85 : decode cX0_run 85 = .ok (.invokevirtual 51, 3) := by decide +kernel
theorem dX0_run_88 : decode cX0_run 88 = .ok (.iinc 4 (-1), 3) := by decide +kernel
theorem dX0_run_91 : decode cX0_run 91 = .ok (.goto (-22), 3) := by decide +kernel
theorem dX0_run_94 : decode cX0_run 94 = .ok (.aload_n 0, 1) := by decide +kernel
theorem dX0_run_95 : decode cX0_run 95 = .ok (.iconst 0, 1) := by decide +kernel
theorem dX0_run_96 : decode cX0_run 96 = .ok (.iconst 0, 1) := by decide +kernel
theorem dX0_run_97 : decode cX0_run 97 = .ok (.invokevirtual 55, 3) := by decide +kernel
theorem dX0_run_100 : decode cX0_run 100 = .ok (.return_, 1) := by decide +kernel
theorem dX0_isFound_0 : decode cX0_isFound 0 = .ok (.aload_n 0, 1) := by decide +kernel
theorem dX0_isFound_1 : decode cX0_isFound 1 = .ok (.getfield 44, 3) := by decide +kernel
theorem dX0_isFound_4 : decode cX0_isFound 4 = .ok (.bipush 8, 2) := by decide +kernel
theorem dX0_isFound_6 : decode cX0_isFound 6 = .ok (.if_icmp .gt 7, 3) := by decide +kernel
theorem dX0_isFound_9 : decode cX0_isFound 9 = .ok (.iconst 1, 1) := by decide +kernel
theorem dX0_isFound_10 : decode cX0_isFound 10 = .ok (.goto 4, 3) := by decide +kernel
theorem dX0_isFound_13 : decode cX0_isFound 13 = .ok (.iconst 0, 1) := by decide +kernel
theorem dX0_isFound_14 : decode cX0_isFound 14 = .ok (.ireturn, 1) := by decide +kernel
theorem dX0_place_0 : decode cX0_place 0 = .ok (.iload_n 0, 1) := by decide +kernel
theorem dX0_place_1 : decode cX0_place 1 = .ok (.iconst 4, 1) := by decide +kernel
theorem dX0_place_2 : decode cX0_place 2 = .ok (.imul, 1) := by decide +kernel
theorem dX0_place_3 : decode cX0_place 3 = .ok (.iload_n 1, 1) := by decide +kernel
theorem dX0_place_4 : decode cX0_place 4 = .ok (.iadd, 1) := by decide +kernel
theorem dX0_place_5 : decode cX0_place 5 = .ok (.ireturn, 1) := by decide +kernel
theorem dX0_spinAll_0 : decode cX0_spinAll 0 = .ok (.aload_n 1, 1) := by decide +kernel
theorem dX0_spinAll_1 : decode cX0_spinAll 1 = .ok (.iload_n 2, 1) := by decide +kernel
theorem dX0_spinAll_2 : decode cX0_spinAll 2 = .ok (.iload_n 3, 1) := by decide +kernel
theorem dX0_spinAll_3 : decode cX0_spinAll 3 = .ok (.aload_n 1, 1) := by decide +kernel
theorem dX0_spinAll_4 : decode cX0_spinAll 4 = .ok (.getfield 59, 3) := by decide +kernel
theorem dX0_spinAll_7 : decode cX0_spinAll 7 = .ok (.iconst 1, 1) := by decide +kernel
theorem dX0_spinAll_8 : decode cX0_spinAll 8 = .ok (.iadd, 1) := by decide +kernel
theorem dX0_spinAll_9 : decode cX0_spinAll 9 = .ok (.invokevirtual 62, 3) := by decide +kernel
theorem dX0_spinAll_12 : decode cX0_spinAll 12 = .ok (.istore 4, 2) := by decide +kernel
theorem dX0_spinAll_14 : decode cX0_spinAll 14 = .ok (.iconst 0, 1) := by decide +kernel
theorem dX0_spinAll_15 : decode cX0_spinAll 15 = .ok (.istore 5, 2) := by decide +kernel
theorem dX0_spinAll_17 : decode cX0_spinAll 17 = .ok (.iload 5, 2) := by decide +kernel
theorem dX0_spinAll_19 : decode cX0_spinAll 19 = .ok (.aload_n 0, 1) := by decide +kernel
theorem dX0_spinAll_20 : decode cX0_spinAll 20 = .ok (.getfield 43, 3) := by decide +kernel
theorem dX0_spinAll_23 : decode cX0_spinAll 23 = .ok (.if_icmp .ge 79, 3) := by decide +kernel
theorem dX0_spinAll_26 : decode cX0_spinAll 26 = .ok (.aload_n 0, 1) := by decide +kernel
theorem dX0_spinAll_27 : decode cX0_spinAll 27 = .ok (.getfield 11, 3) := by decide +kernel
theorem dX0_spinAll_30 : decode cX0_spinAll 30 = .ok (.iload_n 3, 1) := by decide +kernel
theorem dX0_spinAll_31 : decode cX0_spinAll 31 = .ok (.iload 5, 2) := by decide +kernel
theorem dX0_spinAll_33 : decode cX0_spinAll 33 = .ok (.invokestatic 66, 3) := by decide +kernel
theorem dX0_spinAll_36 : decode cX0_spinAll 36 = .ok (.aaload, 1) := by decide +kernel
theorem dX0_spinAll_37 : decode cX0_spinAll 37 = .ok (.astore 6, 2) := by decide +kernel
theorem dX0_spinAll_39 : decode cX0_spinAll 39 = .ok (.iconst 0, 1) := by decide +kernel
theorem dX0_spinAll_40 : decode cX0_spinAll 40 = .ok (.istore 7, 2) := by decide +kernel
theorem dX0_spinAll_42 : decode cX0_spinAll 42 = .ok (.iload 7, 2) := by decide +kernel
theorem dX0_spinAll_44 : decode cX0_spinAll 44 = .ok (.iconst 4, 1) := by decide +kernel
theorem dX0_spinAll_45 : decode cX0_spinAll 45 = .ok (.if_icmp .ge 15, 3) := by decide +kernel
theorem dX0_spinAll_48 : decode cX0_spinAll 48 = .ok (.aload 6, 2) := by decide +kernel
theorem dX0_spinAll_50 : decode cX0_spinAll 50 = .ok (.iload 7, 2) := by decide +kernel
theorem dX0_spinAll_52 : decode cX0_spinAll 52 = .ok (.iconst 0, 1) := by decide +kernel
theorem dX0_spinAll_53 : decode cX0_spinAll 53 = .ok (.iastore, 1) := by decide +kernel
theorem dX0_spinAll_54 : decode cX0_spinAll 54 = .ok (.iinc 7 1, 3) := by decide +kernel
theorem dX0_spinAll_57 : decode cX0_spinAll 57 = .ok (.goto (-15), 3) := by decide +kernel
theorem dX0_spinAll_60 : decode cX0_spinAll 60 = .ok (.aload_n 1, 1) := by decide +kernel
theorem dX0_spinAll_61 : decode cX0_spinAll 61 = .ok (.aload 6, 2) := by decide +kernel
theorem dX0_spinAll_63 : decode cX0_spinAll 63 = .ok (.iload 5, 2) := by decide +kernel
theorem dX0_spinAll_65 : decode cX0_spinAll 65 = .ok (.iload_n 3, 1) := by decide +kernel
theorem dX0_spinAll_66 : decode cX0_spinAll 66 = .ok (.iconst 0, 1) := by decide +kernel
theorem dX0_spinAll_67 : decode cX0_spinAll 67 = .ok (.aload_n 1, 1) := by decide +kernel
theorem dX0_spinAll_68 : decode cX0_spinAll 68 = .ok (.getfield 70, 3) := by decide +kernel
theorem dX0_spinAll_71 : decode cX0_spinAll 71 = .ok (.iload_n 3, 1) := by decide +kernel
theorem dX0_spinAll_72 : decode cX0_spinAll 72 = .ok (.iaload, 1) := by decide +kernel
theorem dX0_spinAll_73 : decode cX0_spinAll 73 = .ok (.iload 4, 2) := by decide +kernel
theorem dX0_spinAll_75 : decode cX0_spinAll 75 = .ok (.invokevirtual 73, 3) := by decide +kernel
theorem dX0_spinAll_78 : decode cX0_spinAll 78 = .ok (.aload_n 0, 1) := by decide +kernel
theorem dX0_spinAll_79 : decode cX0_spinAll 79 = .ok (.getfield 16, 3) := by decide +kernel
theorem dX0_spinAll_82 : decode cX0_spinAll 82 = .ok (.iload_n 3, 1) := by decide +kernel
theorem dX0_spinAll_83 : decode cX0_spinAll 83 = .ok (.iload 5, 2) := by decide +kernel
theorem dX0_spinAll_85 : decode cX0_spinAll 85 = .ok (.invokestatic 66, 3) := by decide +kernel
theorem dX0_spinAll_88 : decode cX0_spinAll 88 = .ok (.aload_n 0, 1) := by decide +kernel
theorem dX0_spinAll_89 : decode cX0_spinAll 89 = .ok (.iload_n 3, 1) := by decide +kernel
theorem dX0_spinAll_90 : decode cX0_spinAll 90 = .ok (.iload 5, 2) := by decide +kernel
theorem dX0_spinAll_92 : decode cX0_spinAll 92 = .ok (.invokevirtual 77, 3) := by decide +kernel
theorem dX0_spinAll_95 : decode cX0_spinAll 95 = .ok (.bastore, 1) := by decide +kernel
theorem dX0_spinAll_96 : decode cX0_spinAll 96 = .ok (.iinc 5 1, 3) := by decide +kernel
theorem dX0_spinAll_99 : decode cX0_spinAll 99 = .ok (.goto (-82), 3) := by decide +kernel
theorem dX0_spinAll_102 : decode cX0_spinAll 102 = .ok (.return_, 1) := by decide +kernel
theorem dX0_isUnlikeEarlier_0 : decode cX0_isUnlikeEarlier 0 = .ok (.iconst 0, 1) := by decide +kernel
theorem dX0_isUnlikeEarlier_1 : decode cX0_isUnlikeEarlier 1 = .ok (.istore_n 3, 1) := by decide +kernel
theorem dX0_isUnlikeEarlier_2 : decode cX0_isUnlikeEarlier 2 = .ok (.iload_n 3, 1) := by decide +kernel
theorem dX0_isUnlikeEarlier_3 : decode cX0_isUnlikeEarlier 3 = .ok (.iload_n 2, 1) := by decide +kernel
theorem dX0_isUnlikeEarlier_4 : decode cX0_isUnlikeEarlier 4 = .ok (.if_icmp .ge 38, 3) := by decide +kernel
theorem dX0_isUnlikeEarlier_7 : decode cX0_isUnlikeEarlier 7 = .ok (.aload_n 0, 1) := by decide +kernel
theorem dX0_isUnlikeEarlier_8 : decode cX0_isUnlikeEarlier 8 = .ok (.getfield 11, 3) := by decide +kernel
theorem dX0_isUnlikeEarlier_11 : decode cX0_isUnlikeEarlier 11 = .ok (.iload_n 1, 1) := by decide +kernel
theorem dX0_isUnlikeEarlier_12 : decode cX0_isUnlikeEarlier 12 = .ok (.iload_n 3, 1) := by decide +kernel
theorem dX0_isUnlikeEarlier_13 : decode cX0_isUnlikeEarlier 13 = .ok (.invokestatic 66, 3) := by decide +kernel
theorem dX0_isUnlikeEarlier_16 : decode cX0_isUnlikeEarlier 16 = .ok (.aaload, 1) := by decide +kernel
theorem dX0_isUnlikeEarlier_17 : decode cX0_isUnlikeEarlier 17 = .ok (.aload_n 0, 1) := by decide +kernel
theorem dX0_isUnlikeEarlier_18 : decode cX0_isUnlikeEarlier 18 = .ok (.getfield 11, 3) := by decide +kernel
theorem dX0_isUnlikeEarlier_21 : decode cX0_isUnlikeEarlier 21 = .ok (.iload_n 1, 1) := by decide +kernel
theorem dX0_isUnlikeEarlier_22 : decode cX0_isUnlikeEarlier 22 = .ok (.iload_n 2, 1) := by decide +kernel
theorem dX0_isUnlikeEarlier_23 : decode cX0_isUnlikeEarlier 23 = .ok (.invokestatic 66, 3) := by decide +kernel
theorem dX0_isUnlikeEarlier_26 : decode cX0_isUnlikeEarlier 26 = .ok (.aaload, 1) := by decide +kernel
theorem dX0_isUnlikeEarlier_27 : decode cX0_isUnlikeEarlier 27 = .ok (.iconst 4, 1) := by decide +kernel
theorem dX0_isUnlikeEarlier_28 : decode cX0_isUnlikeEarlier 28 = .ok (.invokestatic 81, 3) := by decide +kernel
theorem dX0_isUnlikeEarlier_31 : decode cX0_isUnlikeEarlier 31 = .ok (.ifCond .eq 5, 3) := by decide +kernel
theorem dX0_isUnlikeEarlier_34 : decode cX0_isUnlikeEarlier 34 = .ok (.iconst 0, 1) := by decide +kernel
theorem dX0_isUnlikeEarlier_35 : decode cX0_isUnlikeEarlier 35 = .ok (.ireturn, 1) := by decide +kernel
theorem dX0_isUnlikeEarlier_36 : decode cX0_isUnlikeEarlier 36 = .ok (.iinc 3 1, 3) := by decide +kernel
theorem dX0_isUnlikeEarlier_39 : decode cX0_isUnlikeEarlier 39 = .ok (.goto (-37), 3) := by decide +kernel
theorem dX0_isUnlikeEarlier_42 : decode cX0_isUnlikeEarlier 42 = .ok (.iconst 1, 1) := by decide +kernel
theorem dX0_isUnlikeEarlier_43 : decode cX0_isUnlikeEarlier 43 = .ok (.ireturn, 1) := by decide +kernel
theorem dX0_addHope_0 : decode cX0_addHope 0 = .ok (.iconst 0, 1) := by decide +kernel
theorem dX0_addHope_1 : decode cX0_addHope 1 = .ok (.istore_n 2, 1) := by decide +kernel
theorem dX0_addHope_2 : decode cX0_addHope 2 = .ok (.iload_n 2, 1) := by decide +kernel
theorem dX0_addHope_3 : decode cX0_addHope 3 = .ok (.iconst 4, 1) := by decide +kernel
theorem dX0_addHope_4 : decode cX0_addHope 4 = .ok (.if_icmp .ge 67, 3) := by decide +kernel
theorem dX0_addHope_7 : decode cX0_addHope 7 = .ok (.iconst 0, 1) := by decide +kernel
theorem dX0_addHope_8 : decode cX0_addHope 8 = .ok (.istore_n 3, 1) := by decide +kernel
theorem dX0_addHope_9 : decode cX0_addHope 9 = .ok (.iconst 0, 1) := by decide +kernel
theorem dX0_addHope_10 : decode cX0_addHope 10 = .ok (.istore 4, 2) := by decide +kernel
theorem dX0_addHope_12 : decode cX0_addHope 12 = .ok (.iload 4, 2) := by decide +kernel
theorem dX0_addHope_14 : decode cX0_addHope 14 = .ok (.aload_n 0, 1) := by decide +kernel
theorem dX0_addHope_15 : decode cX0_addHope 15 = .ok (.getfield 43, 3) := by decide +kernel
theorem dX0_addHope_18 : decode cX0_addHope 18 = .ok (.if_icmp .ge 27, 3) := by decide +kernel
theorem dX0_addHope_21 : decode cX0_addHope 21 = .ok (.iload_n 3, 1) := by decide +kernel
theorem dX0_addHope_22 : decode cX0_addHope 22 = .ok (.aload_n 0, 1) := by decide +kernel
theorem dX0_addHope_23 : decode cX0_addHope 23 = .ok (.getfield 11, 3) := by decide +kernel
theorem dX0_addHope_26 : decode cX0_addHope 26 = .ok (.iload_n 1, 1) := by decide +kernel
theorem dX0_addHope_27 : decode cX0_addHope 27 = .ok (.iload 4, 2) := by decide +kernel
theorem dX0_addHope_29 : decode cX0_addHope 29 = .ok (.invokestatic 66, 3) := by decide +kernel
theorem dX0_addHope_32 : decode cX0_addHope 32 = .ok (.aaload, 1) := by decide +kernel
theorem dX0_addHope_33 : decode cX0_addHope 33 = .ok (.iload_n 2, 1) := by decide +kernel
theorem dX0_addHope_34 : decode cX0_addHope 34 = .ok (.iaload, 1) := by decide +kernel
theorem dX0_addHope_35 : decode cX0_addHope 35 = .ok (.invokestatic 85, 3) := by decide +kernel
theorem dX0_addHope_38 : decode cX0_addHope 38 = .ok (.istore_n 3, 1) := by decide +kernel
theorem dX0_addHope_39 : decode cX0_addHope 39 = .ok (.iinc 4 1, 3) := by decide +kernel
theorem dX0_addHope_42 : decode cX0_addHope 42 = .ok (.goto (-30), 3) := by decide +kernel
theorem dX0_addHope_45 : decode cX0_addHope 45 = .ok (.aload_n 0, 1) := by decide +kernel
theorem dX0_addHope_46 : decode cX0_addHope 46 = .ok (.getfield 20, 3) := by decide +kernel
theorem dX0_addHope_49 : decode cX0_addHope 49 = .ok (.iload_n 1, 1) := by decide +kernel
theorem dX0_addHope_50 : decode cX0_addHope 50 = .ok (.aaload, 1) := by decide +kernel
theorem dX0_addHope_51 : decode cX0_addHope 51 = .ok (.iload_n 2, 1) := by decide +kernel
theorem dX0_addHope_52 : decode cX0_addHope 52 = .ok (.aload_n 0, 1) := by decide +kernel
theorem dX0_addHope_53 : decode cX0_addHope 53 = .ok (.getfield 20, 3) := by decide +kernel
theorem dX0_addHope_56 : decode cX0_addHope 56 = .ok (.iload_n 1, 1) := by decide +kernel
theorem dX0_addHope_57 : decode cX0_addHope 57 = .ok (.iconst 1, 1) := by decide +kernel
theorem dX0_addHope_58 : decode cX0_addHope 58 = .ok (.iadd, 1) := by decide +kernel
theorem dX0_addHope_59 : decode cX0_addHope 59 = .ok (.aaload, 1) := by decide +kernel
theorem dX0_addHope_60 : decode cX0_addHope 60 = .ok (.iload_n 2, 1) := by decide +kernel
theorem dX0_addHope_61 : decode cX0_addHope 61 = .ok (.iaload, 1) := by decide +kernel
theorem dX0_addHope_62 : decode cX0_addHope 62 = .ok (.iload_n 3, 1) := by decide +kernel
theorem dX0_addHope_63 : decode cX0_addHope 63 = .ok (.iadd, 1) := by decide +kernel
theorem dX0_addHope_64 : decode cX0_addHope 64 = .ok (.iastore, 1) := by decide +kernel
theorem dX0_addHope_65 : decode cX0_addHope 65 = .ok (.iinc 2 1, 3) := by decide +kernel
theorem dX0_addHope_68 : decode cX0_addHope 68 = .ok (.goto (-66), 3) := by decide +kernel
theorem dX0_addHope_71 : decode cX0_addHope 71 = .ok (.return_, 1) := by decide +kernel
theorem dX0_isCovered_0 : decode cX0_isCovered 0 = .ok (.iconst 0, 1) := by decide +kernel
theorem dX0_isCovered_1 : decode cX0_isCovered 1 = .ok (.istore_n 2, 1) := by decide +kernel
theorem dX0_isCovered_2 : decode cX0_isCovered 2 = .ok (.iload_n 2, 1) := by decide +kernel
theorem dX0_isCovered_3 : decode cX0_isCovered 3 = .ok (.iconst 4, 1) := by decide +kernel
theorem dX0_isCovered_4 : decode cX0_isCovered 4 = .ok (.if_icmp .ge 23, 3) := by decide +kernel
theorem dX0_isCovered_7 : decode cX0_isCovered 7 = .ok (.aload_n 0, 1) := by decide +kernel
theorem dX0_isCovered_8 : decode cX0_isCovered 8 = .ok (.getfield 23, 3) := by decide +kernel
theorem dX0_isCovered_11 : decode cX0_isCovered 11 = .ok (.iload_n 2, 1) := by decide +kernel
theorem dX0_isCovered_12 : decode cX0_isCovered 12 = .ok (.iaload, 1) := by decide +kernel
theorem dX0_isCovered_13 : decode cX0_isCovered 13 = .ok (.aload_n 1, 1) := by decide +kernel
theorem dX0_isCovered_14 : decode cX0_isCovered 14 = .ok (.iload_n 2, 1) := by decide +kernel
theorem dX0_isCovered_15 : decode cX0_isCovered 15 = .ok (.iaload, 1) := by decide +kernel
theorem dX0_isCovered_16 : decode cX0_isCovered 16 = .ok (.if_icmp .le 5, 3) := by decide +kernel
theorem dX0_isCovered_19 : decode cX0_isCovered 19 = .ok (.iconst 0, 1) := by decide +kernel
theorem dX0_isCovered_20 : decode cX0_isCovered 20 = .ok (.ireturn, 1) := by decide +kernel
theorem dX0_isCovered_21 : decode cX0_isCovered 21 = .ok (.iinc 2 1, 3) := by decide +kernel
theorem dX0_isCovered_24 : decode cX0_isCovered 24 = .ok (.goto (-22), 3) := by decide +kernel
theorem dX0_isCovered_27 : decode cX0_isCovered 27 = .ok (.iconst 1, 1) := by decide +kernel
theorem dX0_isCovered_28 : decode cX0_isCovered 28 = .ok (.ireturn, 1) := by decide +kernel
theorem dX0_search_0 : decode cX0_search 0 = .ok (.iload_n 2, 1) := by decide +kernel
theorem dX0_search_1 : decode cX0_search 1 = .ok (.aload_n 0, 1) := by decide +kernel
theorem dX0_search_2 : decode cX0_search 2 = .ok (.getfield 44, 3) := by decide +kernel
theorem dX0_search_5 : decode cX0_search 5 = .ok (.if_icmp .ge 16, 3) := by decide +kernel
theorem dX0_search_8 : decode cX0_search 8 = .ok (.aload_n 0, 1) := by decide +kernel
theorem dX0_search_9 : decode cX0_search 9 = .ok (.aload_n 0, 1) := by decide +kernel
theorem dX0_search_10 : decode cX0_search 10 = .ok (.getfield 20, 3) := by decide +kernel
theorem dX0_search_13 : decode cX0_search 13 = .ok (.iload_n 1, 1) := by decide +kernel
theorem dX0_search_14 : decode cX0_search 14 = .ok (.aaload, 1) := by decide +kernel
theorem dX0_search_15 : decode cX0_search 15 = .ok (.invokevirtual 90, 3) := by decide +kernel
theorem dX0_search_18 : decode cX0_search 18 = .ok (.ifCond .ne 4, 3) := by decide +kernel
theorem dX0_search_21 : decode cX0_search 21 = .ok (.return_, 1) := by decide +kernel
theorem dX0_search_22 : decode cX0_search 22 = .ok (.aload_n 0, 1) := by decide +kernel
theorem dX0_search_23 : decode cX0_search 23 = .ok (.aload_n 0, 1) := by decide +kernel
theorem dX0_search_24 : decode cX0_search 24 = .ok (.getfield 20, 3) := by decide +kernel
theorem dX0_search_27 : decode cX0_search 27 = .ok (.aload_n 0, 1) := by decide +kernel
theorem dX0_search_28 : decode cX0_search 28 = .ok (.getfield 39, 3) := by decide +kernel
theorem dX0_search_31 : decode cX0_search 31 = .ok (.aaload, 1) := by decide +kernel
theorem dX0_search_32 : decode cX0_search 32 = .ok (.invokevirtual 90, 3) := by decide +kernel
theorem dX0_search_35 : decode cX0_search 35 = .ok (.ifCond .eq 23, 3) := by decide +kernel
theorem dX0_search_38 : decode cX0_search 38 = .ok (.aload_n 0, 1) := by decide +kernel
theorem dX0_search_39 : decode cX0_search 39 = .ok (.iload_n 2, 1) := by decide +kernel
theorem dX0_search_40 : decode cX0_search 40 = .ok (.putfield 44, 3) := by decide +kernel
theorem dX0_search_43 : decode cX0_search 43 = .ok (.aload_n 0, 1) := by decide +kernel
theorem dX0_search_44 : decode cX0_search 44 = .ok (.getfield 27, 3) := by decide +kernel
theorem dX0_search_47 : decode cX0_search 47 = .ok (.iconst 0, 1) := by decide +kernel
theorem dX0_search_48 : decode cX0_search 48 = .ok (.aload_n 0, 1) := by decide +kernel
theorem dX0_search_49 : decode cX0_search 49 = .ok (.getfield 30, 3) := by decide +kernel
theorem dX0_search_52 : decode cX0_search 52 = .ok (.iconst 0, 1) := by decide +kernel
theorem dX0_search_53 : decode cX0_search 53 = .ok (.iload_n 2, 1) := by decide +kernel
theorem dX0_search_54 : decode cX0_search 54 = .ok (.invokestatic 94, 3) := by decide +kernel
theorem dX0_search_57 : decode cX0_search 57 = .ok (.return_, 1) := by decide +kernel
theorem dX0_search_58 : decode cX0_search 58 = .ok (.iload_n 1, 1) := by decide +kernel
theorem dX0_search_59 : decode cX0_search 59 = .ok (.aload_n 0, 1) := by decide +kernel
theorem dX0_search_60 : decode cX0_search 60 = .ok (.getfield 39, 3) := by decide +kernel
theorem dX0_search_63 : decode cX0_search 63 = .ok (.if_icmp .ge 13, 3) := by decide +kernel
theorem dX0_search_66 : decode cX0_search 66 = .ok (.iload_n 2, 1) := by decide +kernel
theorem dX0_search_67 : decode cX0_search 67 = .ok (.iconst 1, 1) := by decide +kernel
theorem dX0_search_68 : decode cX0_search 68 = .ok (.iadd, 1) := by decide +kernel
theorem dX0_search_69 : decode cX0_search 69 = .ok (.aload_n 0, 1) := by decide +kernel
theorem dX0_search_70 : decode cX0_search 70 = .ok (.getfield 44, 3) := by decide +kernel
theorem dX0_search_73 : decode cX0_search 73 = .ok (.if_icmp .lt 4, 3) := by decide +kernel
theorem dX0_search_76 : decode cX0_search 76 = .ok (.return_, 1) := by decide +kernel
theorem dX0_search_77 : decode cX0_search 77 = .ok (.iconst 0, 1) := by decide +kernel
theorem dX0_search_78 : decode cX0_search 78 = .ok (.istore_n 3, 1) := by decide +kernel
theorem dX0_search_79 : decode cX0_search 79 = .ok (.iload_n 3, 1) := by decide +kernel
theorem dX0_search_80 : decode cX0_search 80 = .ok (.aload_n 0, 1) := by decide +kernel
theorem dX0_search_81 : decode cX0_search 81 = .ok (.getfield 43, 3) := by decide +kernel
theorem dX0_search_84 : decode cX0_search 84 = .ok (.if_icmp .ge 64, 3) := by decide +kernel
theorem dX0_search_87 : decode cX0_search 87 = .ok (.aload_n 0, 1) := by decide +kernel
theorem dX0_search_88 : decode cX0_search 88 = .ok (.getfield 16, 3) := by decide +kernel
theorem dX0_search_91 : decode cX0_search 91 = .ok (.iload_n 1, 1) := by decide +kernel
theorem dX0_search_92 : decode cX0_search 92 = .ok (.iload_n 3, 1) := by decide +kernel
theorem dX0_search_93 : decode cX0_search 93 = .ok (.invokestatic 66, 3) := by decide +kernel
theorem dX0_search_96 : decode cX0_search 96 = .ok (.baload, 1) := by decide +kernel
theorem dX0_search_97 : decode cX0_search 97 = .ok (.ifCond .eq 45, 3) := by decide +kernel
theorem dX0_search_100 : decode cX0_search 100 = .ok (.aload_n 0, 1) := by decide +kernel
theorem dX0_search_101 : decode cX0_search 101 = .ok (.getfield 27, 3) := by decide +kernel
theorem dX0_search_104 : decode cX0_search 104 = .ok (.iload_n 2, 1) := by decide +kernel
theorem dX0_search_105 : decode cX0_search 105 = .ok (.bipush 10, 2) := by decide +kernel
theorem dX0_search_107 : decode cX0_search 107 = .ok (.iload_n 1, 1) := by decide +kernel
theorem dX0_search_108 : decode cX0_search 108 = .ok (.imul, 1) := by decide +kernel
theorem dX0_search_109 : decode cX0_search 109 = .ok (.iload_n 3, 1) := by decide +kernel
theorem dX0_search_110 : decode cX0_search 110 = .ok (.iadd, 1) := by decide +kernel
theorem dX0_search_111 : decode cX0_search 111 = .ok (.iastore, 1) := by decide +kernel
theorem dX0_search_112 : decode cX0_search 112 = .ok (.aload_n 0, 1) := by decide +kernel
theorem dX0_search_113 : decode cX0_search 113 = .ok (.iload_n 1, 1) := by decide +kernel
theorem dX0_search_114 : decode cX0_search 114 = .ok (.iload_n 3, 1) := by decide +kernel
theorem dX0_search_115 : decode cX0_search 115 = .ok (.invokestatic 66, 3) := by decide +kernel
theorem dX0_search_118 : decode cX0_search 118 = .ok (.iconst 1, 1) := by decide +kernel
theorem dX0_search_119 : decode cX0_search 119 = .ok (.invokevirtual 100, 3) := by decide +kernel
theorem dX0_search_122 : decode cX0_search 122 = .ok (.aload_n 0, 1) := by decide +kernel
theorem dX0_search_123 : decode cX0_search 123 = .ok (.iload_n 1, 1) := by decide +kernel
theorem dX0_search_124 : decode cX0_search 124 = .ok (.iconst 1, 1) := by decide +kernel
theorem dX0_search_125 : decode cX0_search 125 = .ok (.iadd, 1) := by decide +kernel
theorem dX0_search_126 : decode cX0_search 126 = .ok (.iload_n 2, 1) := by decide +kernel
theorem dX0_search_127 : decode cX0_search 127 = .ok (.iconst 1, 1) := by decide +kernel
theorem dX0_search_128 : decode cX0_search 128 = .ok (.iadd, 1) := by decide +kernel
theorem dX0_search_129 : decode cX0_search 129 = .ok (.invokevirtual 55, 3) := by decide +kernel
theorem dX0_search_132 : decode cX0_search 132 = .ok (.aload_n 0, 1) := by decide +kernel
theorem dX0_search_133 : decode cX0_search 133 = .ok (.iload_n 1, 1) := by decide +kernel
theorem dX0_search_134 : decode cX0_search 134 = .ok (.iload_n 3, 1) := by decide +kernel
theorem dX0_search_135 : decode cX0_search 135 = .ok (.invokestatic 66, 3) := by decide +kernel
theorem dX0_search_138 : decode cX0_search 138 = .ok (.iconst (-1), 1) := by decide +kernel
theorem dX0_search_139 : decode cX0_search 139 = .ok (.invokevirtual 100, 3) := by decide +kernel
theorem dX0_search_142 : decode cX0_search 142 = .ok (.iinc 3 1, 3) := by decide +kernel
theorem dX0_search_145 : decode cX0_search 145 = .ok (.goto (-66), 3) := by decide +kernel
theorem dX0_search_148 : decode cX0_search 148 = .ok (.aload_n 0, 1) := by decide +kernel
theorem dX0_search_149 : decode cX0_search 149 = .ok (.iload_n 1, 1) := by decide +kernel
theorem dX0_search_150 : decode cX0_search 150 = .ok (.iconst 1, 1) := by decide +kernel
theorem dX0_search_151 : decode cX0_search 151 = .ok (.iadd, 1) := by decide +kernel
theorem dX0_search_152 : decode cX0_search 152 = .ok (.iload_n 2, 1) := by decide +kernel
theorem dX0_search_153 : decode cX0_search 153 = .ok (.invokevirtual 55, 3) := by decide +kernel
theorem dX0_search_156 : decode cX0_search 156 = .ok (.return_, 1) := by decide +kernel
theorem dX0_take_0 : decode cX0_take 0 = .ok (.iconst 0, 1) := by decide +kernel
theorem dX0_take_1 : decode cX0_take 1 = .ok (.istore_n 3, 1) := by decide +kernel
theorem dX0_take_2 : decode cX0_take 2 = .ok (.iload_n 3, 1) := by decide +kernel
theorem dX0_take_3 : decode cX0_take 3 = .ok (.iconst 4, 1) := by decide +kernel
theorem dX0_take_4 : decode cX0_take 4 = .ok (.if_icmp .ge 28, 3) := by decide +kernel
theorem dX0_take_7 : decode cX0_take 7 = .ok (.aload_n 0, 1) := by decide +kernel
theorem dX0_take_8 : decode cX0_take 8 = .ok (.getfield 23, 3) := by decide +kernel
theorem dX0_take_11 : decode cX0_take 11 = .ok (.iload_n 3, 1) := by decide +kernel
theorem dX0_take_12 : decode cX0_take 12 = .ok (.dup2, 1) := by decide +kernel
theorem dX0_take_13 : decode cX0_take 13 = .ok (.iaload, 1) := by decide +kernel
theorem dX0_take_14 : decode cX0_take 14 = .ok (.iload_n 2, 1) := by decide +kernel
theorem dX0_take_15 : decode cX0_take 15 = .ok (.aload_n 0, 1) := by decide +kernel
theorem dX0_take_16 : decode cX0_take 16 = .ok (.getfield 11, 3) := by decide +kernel
theorem dX0_take_19 : decode cX0_take 19 = .ok (.iload_n 1, 1) := by decide +kernel
theorem dX0_take_20 : decode cX0_take 20 = .ok (.aaload, 1) := by decide +kernel
theorem dX0_take_21 : decode cX0_take 21 = .ok (.iload_n 3, 1) := by decide +kernel
theorem dX0_take_22 : decode cX0_take 22 = .ok (.iaload, 1) := by decide +kernel
theorem dX0_take_23 : decode cX0_take 23 = .ok (.imul, 1) := by decide +kernel
theorem dX0_take_24 : decode cX0_take 24 = .ok (.isub, 1) := by decide +kernel
theorem dX0_take_25 : decode cX0_take 25 = .ok (.iastore, 1) := by decide +kernel
theorem dX0_take_26 : decode cX0_take 26 = .ok (.iinc 3 1, 3) := by decide +kernel
theorem dX0_take_29 : decode cX0_take 29 = .ok (.goto (-27), 3) := by decide +kernel
theorem dX0_take_32 : decode cX0_take 32 = .ok (.return_, 1) := by decide +kernel
theorem dX1_init_0 : decode cX1_init 0 = .ok (.aload_n 0, 1) := by decide +kernel
theorem dX1_init_1 : decode cX1_init 1 = .ok (.invokespecial 3, 3) := by decide +kernel
theorem dX1_init_4 : decode cX1_init 4 = .ok (.aload_n 0, 1) := by decide +kernel
theorem dX1_init_5 : decode cX1_init 5 = .ok (.bipush 9, 2) := by decide +kernel
theorem dX1_init_7 : decode cX1_init 7 = .ok (.newarray .int, 2) := by decide +kernel
theorem dX1_init_9 : decode cX1_init 9 = .ok (.putfield 9, 3) := by decide +kernel
theorem dX1_init_12 : decode cX1_init 12 = .ok (.return_, 1) := by decide +kernel
theorem dX1_begin_0 : decode cX1_begin 0 = .ok (.aload_n 0, 1) := by decide +kernel
theorem dX1_begin_1 : decode cX1_begin 1 = .ok (.aload_n 1, 1) := by decide +kernel
theorem dX1_begin_2 : decode cX1_begin 2 = .ok (.getfield 15, 3) := by decide +kernel
theorem dX1_begin_5 : decode cX1_begin 5 = .ok (.iload_n 3, 1) := by decide +kernel
theorem dX1_begin_6 : decode cX1_begin 6 = .ok (.iaload, 1) := by decide +kernel
theorem dX1_begin_7 : decode cX1_begin 7 = .ok (.putfield 20, 3) := by decide +kernel
theorem dX1_begin_10 : decode cX1_begin 10 = .ok (.aload_n 1, 1) := by decide +kernel
theorem dX1_begin_11 : decode cX1_begin 11 = .ok (.getfield 24, 3) := by decide +kernel
theorem dX1_begin_14 : decode cX1_begin 14 = .ok (.iload_n 2, 1) := by decide +kernel
theorem dX1_begin_15 : decode cX1_begin 15 = .ok (.iaload, 1) := by decide +kernel
theorem dX1_begin_16 : decode cX1_begin 16 = .ok (.aload_n 1, 1) := by decide +kernel
theorem dX1_begin_17 : decode cX1_begin 17 = .ok (.getfield 27, 3) := by decide +kernel
theorem dX1_begin_20 : decode cX1_begin 20 = .ok (.iload_n 3, 1) := by decide +kernel
theorem dX1_begin_21 : decode cX1_begin 21 = .ok (.aaload, 1) := by decide +kernel
theorem dX1_begin_22 : decode cX1_begin 22 = .ok (.aload_n 0, 1) := by decide +kernel
theorem dX1_begin_23 : decode cX1_begin 23 = .ok (.getfield 9, 3) := by decide +kernel
theorem dX1_begin_26 : decode cX1_begin 26 = .ok (.aload_n 0, 1) := by decide +kernel
theorem dX1_begin_27 : decode cX1_begin 27 = .ok (.getfield 20, 3) := by decide +kernel
theorem dX1_begin_30 : decode cX1_begin 30 = .ok (.invokestatic 30, 3) := by decide +kernel
theorem dX1_begin_33 : decode cX1_begin 33 = .ok (.return_, 1) := by decide +kernel
theorem dX1_heardUntilGone_0 : decode cX1_heardUntilGone 0 = .ok (.iconst 0, 1) := by decide +kernel
theorem dX1_heardUntilGone_1 : decode cX1_heardUntilGone 1 = .ok (.istore_n 2, 1) := by decide +kernel
theorem dX1_heardUntilGone_2 : decode cX1_heardUntilGone 2 = .ok (.iload_n 2, 1) := by decide +kernel
theorem dX1_heardUntilGone_3 : decode cX1_heardUntilGone 3 = .ok (.aload_n 0, 1) := by decide +kernel
theorem dX1_heardUntilGone_4 : decode cX1_heardUntilGone 4 = .ok (.getfield 20, 3) := by decide +kernel
theorem dX1_heardUntilGone_7 : decode cX1_heardUntilGone 7 = .ok (.if_icmp .ge 21, 3) := by decide +kernel
theorem dX1_heardUntilGone_10 : decode cX1_heardUntilGone 10 = .ok (.aload_n 0, 1) := by decide +kernel
theorem dX1_heardUntilGone_11 : decode cX1_heardUntilGone 11 = .ok (.getfield 9, 3) := by decide +kernel
theorem dX1_heardUntilGone_14 : decode cX1_heardUntilGone 14 = .ok (.iload_n 2, 1) := by decide +kernel
theorem dX1_heardUntilGone_15 : decode cX1_heardUntilGone 15 = .ok (.iaload, 1) := by decide +kernel
theorem dX1_heardUntilGone_16 : decode cX1_heardUntilGone 16 = .ok (.iload_n 1, 1) := by decide +kernel
theorem dX1_heardUntilGone_17 : decode cX1_heardUntilGone 17 = .ok (.if_icmp .ge 5, 3) := by decide +kernel
theorem dX1_heardUntilGone_20 : decode cX1_heardUntilGone 20 = .ok (.iload_n 2, 1) := by decide +kernel
theorem dX1_heardUntilGone_21 : decode cX1_heardUntilGone 21 = .ok (.ireturn, 1) := by decide +kernel
theorem dX1_heardUntilGone_22 : decode cX1_heardUntilGone 22 = .ok (.iinc 2 1, 3) := by decide +kernel
theorem dX1_heardUntilGone_25 : decode cX1_heardUntilGone 25 = .ok (.goto (-23), 3) := by decide +kernel
theorem dX1_heardUntilGone_28 : decode cX1_heardUntilGone 28 = .ok (.aload_n 0, 1) := by decide +kernel
theorem dX1_heardUntilGone_29 : decode cX1_heardUntilGone 29 = .ok (.getfield 20, 3) := by decide +kernel
theorem dX1_heardUntilGone_32 : decode cX1_heardUntilGone 32 = .ok (.ireturn, 1) := by decide +kernel
theorem dX1_tellerPoints_0 : decode cX1_tellerPoints 0 = .ok (.aload_n 0, 1) := by decide +kernel
theorem dX1_tellerPoints_1 : decode cX1_tellerPoints 1 = .ok (.iload_n 2, 1) := by decide +kernel
theorem dX1_tellerPoints_2 : decode cX1_tellerPoints 2 = .ok (.invokevirtual 34, 3) := by decide +kernel
theorem dX1_tellerPoints_5 : decode cX1_tellerPoints 5 = .ok (.istore_n 3, 1) := by decide +kernel
theorem dX1_tellerPoints_6 : decode cX1_tellerPoints 6 = .ok (.iload_n 3, 1) := by decide +kernel
theorem dX1_tellerPoints_7 : decode cX1_tellerPoints 7 = .ok (.iload_n 1, 1) := by decide +kernel
theorem dX1_tellerPoints_8 : decode cX1_tellerPoints 8 = .ok (.if_icmp .ge 9, 3) := by decide +kernel
theorem dX1_tellerPoints_11 : decode cX1_tellerPoints 11 = .ok (.iload_n 3, 1) := by decide +kernel
theorem dX1_tellerPoints_12 : decode cX1_tellerPoints 12 = .ok (.iconst 3, 1) := by decide +kernel
theorem dX1_tellerPoints_13 : decode cX1_tellerPoints 13 = .ok (.isub, 1) := by decide +kernel
theorem dX1_tellerPoints_14 : decode cX1_tellerPoints 14 = .ok (.goto 4, 3) := by decide +kernel
theorem dX1_tellerPoints_17 : decode cX1_tellerPoints 17 = .ok (.iload_n 1, 1) := by decide +kernel
theorem dX1_tellerPoints_18 : decode cX1_tellerPoints 18 = .ok (.ireturn, 1) := by decide +kernel
theorem dX1_spinnerPoints_0 : decode cX1_spinnerPoints 0 = .ok (.iload_n 1, 1) := by decide +kernel
theorem dX1_spinnerPoints_1 : decode cX1_spinnerPoints 1 = .ok (.aload_n 0, 1) := by decide +kernel
theorem dX1_spinnerPoints_2 : decode cX1_spinnerPoints 2 = .ok (.iload_n 2, 1) := by decide +kernel
theorem dX1_spinnerPoints_3 : decode cX1_spinnerPoints 3 = .ok (.invokevirtual 34, 3) := by decide +kernel
theorem dX1_spinnerPoints_6 : decode cX1_spinnerPoints 6 = .ok (.invokestatic 38, 3) := by decide +kernel
theorem dX1_spinnerPoints_9 : decode cX1_spinnerPoints 9 = .ok (.istore_n 3, 1) := by decide +kernel
theorem dX1_spinnerPoints_10 : decode cX1_spinnerPoints 10 = .ok (.iconst 0, 1) := by decide +kernel
theorem dX1_spinnerPoints_11 : decode cX1_spinnerPoints 11 = .ok (.istore 4, 2) := by decide +kernel
theorem dX1_spinnerPoints_13 : decode cX1_spinnerPoints 13 = .ok (.iconst 0, 1) := by decide +kernel
theorem dX1_spinnerPoints_14 : decode cX1_spinnerPoints 14 = .ok (.istore 5, 2) := by decide +kernel
theorem dX1_spinnerPoints_16 : decode cX1_spinnerPoints 16 = .ok (.iload 5, 2) := by decide +kernel
theorem dX1_spinnerPoints_18 : decode cX1_spinnerPoints 18 = .ok (.iload_n 3, 1) := by decide +kernel
theorem dX1_spinnerPoints_19 : decode cX1_spinnerPoints 19 = .ok (.if_icmp .ge 26, 3) := by decide +kernel
theorem dX1_spinnerPoints_22 : decode cX1_spinnerPoints 22 = .ok (.iload 4, 2) := by decide +kernel
theorem dX1_spinnerPoints_24 : decode cX1_spinnerPoints 24 = .ok (.aload_n 0, 1) := by decide +kernel
theorem dX1_spinnerPoints_25 : decode cX1_spinnerPoints 25 = .ok (.getfield 9, 3) := by decide +kernel
theorem dX1_spinnerPoints_28 : decode cX1_spinnerPoints 28 = .ok (.iload 5, 2) := by decide +kernel
theorem dX1_spinnerPoints_30 : decode cX1_spinnerPoints 30 = .ok (.iaload, 1) := by decide +kernel
theorem dX1_spinnerPoints_31 : decode cX1_spinnerPoints 31 = .ok (.invokestatic 44, 3) := by decide +kernel
theorem dX1_spinnerPoints_34 : decode cX1_spinnerPoints 34 = .ok (.iconst 1, 1) := by decide +kernel
theorem dX1_spinnerPoints_35 : decode cX1_spinnerPoints 35 = .ok (.isub, 1) := by decide +kernel
theorem dX1_spinnerPoints_36 : decode cX1_spinnerPoints 36 = .ok (.iadd, 1) := by decide +kernel
theorem dX1_spinnerPoints_37 : decode cX1_spinnerPoints 37 = .ok (.istore 4, 2) := by decide +kernel
theorem dX1_spinnerPoints_39 : decode cX1_spinnerPoints 39 = .ok (.iinc 5 1, 3) := by decide +kernel
theorem dX1_spinnerPoints_42 : decode cX1_spinnerPoints 42 = .ok (.goto (-26), 3) := by decide +kernel
theorem dX1_spinnerPoints_45 : decode cX1_spinnerPoints 45 = .ok (.iload 4, 2) := by decide +kernel
theorem dX1_spinnerPoints_47 : decode cX1_spinnerPoints 47 = .ok (.ireturn, 1) := by decide +kernel
theorem dX1_findRests_0 : decode cX1_findRests 0 = .ok (.aload_n 0, 1) := by decide +kernel
theorem dX1_findRests_1 : decode cX1_findRests 1 = .ok (.iconst 0, 1) := by decide +kernel
theorem dX1_findRests_2 : decode cX1_findRests 2 = .ok (.putfield 47, 3) := by decide +kernel
theorem dX1_findRests_5 : decode cX1_findRests 5 = .ok (.aload_n 0, 1) := by decide +kernel
theorem dX1_findRests_6 : decode cX1_findRests 6 = .ok (.bipush (-4), 2) := by decide +kernel
theorem dX1_findRests_8 : decode cX1_findRests 8 = .ok (.putfield 50, 3) := by decide +kernel
theorem dX1_findRests_11 : decode cX1_findRests 11 = .ok (.iconst 1, 1) := by decide +kernel
theorem dX1_findRests_12 : decode cX1_findRests 12 = .ok (.istore_n 1, 1) := by decide +kernel
theorem dX1_findRests_13 : decode cX1_findRests 13 = .ok (.iload_n 1, 1) := by decide +kernel
theorem dX1_findRests_14 : decode cX1_findRests 14 = .ok (.aload_n 0, 1) := by decide +kernel
theorem dX1_findRests_15 : decode cX1_findRests 15 = .ok (.getfield 20, 3) := by decide +kernel
theorem dX1_findRests_18 : decode cX1_findRests 18 = .ok (.if_icmp .gt 75, 3) := by decide +kernel
theorem dX1_findRests_21 : decode cX1_findRests 21 = .ok (.iconst 0, 1) := by decide +kernel
theorem dX1_findRests_22 : decode cX1_findRests 22 = .ok (.istore_n 2, 1) := by decide +kernel
theorem dX1_findRests_23 : decode cX1_findRests 23 = .ok (.iload_n 2, 1) := by decide +kernel
theorem dX1_findRests_24 : decode cX1_findRests 24 = .ok (.bipush 9, 2) := by decide +kernel
theorem dX1_findRests_26 : decode cX1_findRests 26 = .ok (.if_icmp .gt 61, 3) := by decide +kernel
theorem dX1_findRests_29 : decode cX1_findRests 29 = .ok (.aload_n 0, 1) := by decide +kernel
theorem dX1_findRests_30 : decode cX1_findRests 30 = .ok (.iload_n 1, 1) := by decide +kernel
theorem dX1_findRests_31 : decode cX1_findRests 31 = .ok (.iload_n 2, 1) := by decide +kernel
theorem dX1_findRests_32 : decode cX1_findRests 32 = .ok (.invokevirtual 53, 3) := by decide +kernel
theorem dX1_findRests_35 : decode cX1_findRests 35 = .ok (.ifCond .eq 46, 3) := by decide +kernel
theorem dX1_findRests_38 : decode cX1_findRests 38 = .ok (.aload_n 0, 1) := by decide +kernel
theorem dX1_findRests_39 : decode cX1_findRests 39 = .ok (.iload_n 1, 1) := by decide +kernel
theorem dX1_findRests_40 : decode cX1_findRests 40 = .ok (.iload_n 2, 1) := by decide +kernel
theorem dX1_findRests_41 : decode cX1_findRests 41 = .ok (.invokevirtual 57, 3) := by decide +kernel
theorem dX1_findRests_44 : decode cX1_findRests 44 = .ok (.ifCond .eq 37, 3) := by decide +kernel
theorem dX1_findRests_47 : decode cX1_findRests 47 = .ok (.aload_n 0, 1) := by decide +kernel
theorem dX1_findRests_48 : decode cX1_findRests 48 = .ok (.aload_n 0, 1) := by decide +kernel
theorem dX1_findRests_49 : decode cX1_findRests 49 = .ok (.getfield 47, 3) := by decide +kernel
theorem dX1_findRests_52 : decode cX1_findRests 52 = .ok (.ifCond .ne 12, 3) := by decide +kernel
theorem dX1_findRests_55 : decode cX1_findRests 55 = .ok (.bipush 10, 2) := by decide +kernel
theorem dX1_findRests_57 : decode cX1_findRests 57 = .ok (.iload_n 1, 1) := by decide +kernel
theorem dX1_findRests_58 : decode cX1_findRests 58 = .ok (.imul, 1) := by decide +kernel
theorem dX1_findRests_59 : decode cX1_findRests 59 = .ok (.iload_n 2, 1) := by decide +kernel
theorem dX1_findRests_60 : decode cX1_findRests 60 = .ok (.iadd, 1) := by decide +kernel
theorem dX1_findRests_61 : decode cX1_findRests 61 = .ok (.goto 7, 3) := by decide +kernel
theorem dX1_findRests_64 : decode cX1_findRests 64 = .ok (.aload_n 0, 1) := by decide +kernel
theorem dX1_findRests_65 : decode cX1_findRests 65 = .ok (.getfield 50, 3) := by decide +kernel
theorem dX1_findRests_68 : decode cX1_findRests 68 = .ok (.putfield 50, 3) := by decide +kernel
theorem dX1_findRests_71 : decode cX1_findRests 71 = .ok (.aload_n 0, 1) := by decide +kernel
theorem dX1_findRests_72 : decode cX1_findRests 72 = .ok (.dup, 1) := by decide +kernel
theorem dX1_findRests_73 : decode cX1_findRests 73 = .ok (.getfield 47, 3) := by decide +kernel
theorem dX1_findRests_76 : decode cX1_findRests 76 = .ok (.iconst 1, 1) := by decide +kernel
theorem dX1_findRests_77 : decode cX1_findRests 77 = .ok (.iadd, 1) := by decide +kernel
theorem dX1_findRests_78 : decode cX1_findRests 78 = .ok (.putfield 47, 3) := by decide +kernel
theorem dX1_findRests_81 : decode cX1_findRests 81 = .ok (.iinc 2 1, 3) := by decide +kernel
theorem dX1_findRests_84 : decode cX1_findRests 84 = .ok (.goto (-61), 3) := by decide +kernel
theorem dX1_findRests_87 : decode cX1_findRests 87 = .ok (.iinc 1 1, 3) := by decide +kernel
theorem dX1_findRests_90 : decode cX1_findRests 90 = .ok (.goto (-77), 3) := by decide +kernel
theorem dX1_findRests_93 : decode cX1_findRests 93 = .ok (.return_, 1) := by decide +kernel
theorem dX1_tellerRests_0 : decode cX1_tellerRests 0 = .ok (.aload_n 0, 1) := by decide +kernel
theorem dX1_tellerRests_1 : decode cX1_tellerRests 1 = .ok (.iload_n 1, 1) := by decide +kernel
theorem dX1_tellerRests_2 : decode cX1_tellerRests 2 = .ok (.iload_n 2, 1) := by decide +kernel
theorem dX1_tellerRests_3 : decode cX1_tellerRests 3 = .ok (.invokevirtual 60, 3) := by decide +kernel
theorem dX1_tellerRests_6 : decode cX1_tellerRests 6 = .ok (.istore_n 3, 1) := by decide +kernel
theorem dX1_tellerRests_7 : decode cX1_tellerRests 7 = .ok (.iconst 1, 1) := by decide +kernel
theorem dX1_tellerRests_8 : decode cX1_tellerRests 8 = .ok (.istore 4, 2) := by decide +kernel
theorem dX1_tellerRests_10 : decode cX1_tellerRests 10 = .ok (.iload 4, 2) := by decide +kernel
theorem dX1_tellerRests_12 : decode cX1_tellerRests 12 = .ok (.aload_n 0, 1) := by decide +kernel
theorem dX1_tellerRests_13 : decode cX1_tellerRests 13 = .ok (.getfield 20, 3) := by decide +kernel
theorem dX1_tellerRests_16 : decode cX1_tellerRests 16 = .ok (.if_icmp .gt 22, 3) := by decide +kernel
theorem dX1_tellerRests_19 : decode cX1_tellerRests 19 = .ok (.aload_n 0, 1) := by decide +kernel
theorem dX1_tellerRests_20 : decode cX1_tellerRests 20 = .ok (.iload 4, 2) := by decide +kernel
theorem dX1_tellerRests_22 : decode cX1_tellerRests 22 = .ok (.iload_n 2, 1) := by decide +kernel
theorem dX1_tellerRests_23 : decode cX1_tellerRests 23 = .ok (.invokevirtual 60, 3) := by decide +kernel
theorem dX1_tellerRests_26 : decode cX1_tellerRests 26 = .ok (.iload_n 3, 1) := by decide +kernel
theorem dX1_tellerRests_27 : decode cX1_tellerRests 27 = .ok (.if_icmp .le 5, 3) := by decide +kernel
theorem dX1_tellerRests_30 : decode cX1_tellerRests 30 = .ok (.iconst 0, 1) := by decide +kernel
theorem dX1_tellerRests_31 : decode cX1_tellerRests 31 = .ok (.ireturn, 1) := by decide +kernel
theorem dX1_tellerRests_32 : decode cX1_tellerRests 32 = .ok (.iinc 4 1, 3) := by decide +kernel
theorem dX1_tellerRests_35 : decode cX1_tellerRests 35 = .ok (.goto (-25), 3) := by decide +kernel
theorem dX1_tellerRests_38 : decode cX1_tellerRests 38 = .ok (.iconst 1, 1) := by decide +kernel
theorem dX1_tellerRests_39 : decode cX1_tellerRests 39 = .ok (.ireturn, 1) := by decide +kernel
theorem dX1_spinnerRests_0 : decode cX1_spinnerRests 0 = .ok (.aload_n 0, 1) := by decide +kernel
theorem dX1_spinnerRests_1 : decode cX1_spinnerRests 1 = .ok (.iload_n 1, 1) := by decide +kernel
theorem dX1_spinnerRests_2 : decode cX1_spinnerRests 2 = .ok (.iload_n 2, 1) := by decide +kernel
theorem dX1_spinnerRests_3 : decode cX1_spinnerRests 3 = .ok (.invokevirtual 63, 3) := by decide +kernel
theorem dX1_spinnerRests_6 : decode cX1_spinnerRests 6 = .ok (.istore_n 3, 1) := by decide +kernel
theorem dX1_spinnerRests_7 : decode cX1_spinnerRests 7 = .ok (.iconst 0, 1) := by decide +kernel
theorem dX1_spinnerRests_8 : decode cX1_spinnerRests 8 = .ok (.istore 4, 2) := by decide +kernel
theorem dX1_spinnerRests_10 : decode cX1_spinnerRests 10 = .ok (.iload 4, 2) := by decide +kernel
theorem dX1_spinnerRests_12 : decode cX1_spinnerRests 12 = .ok (.bipush 9, 2) := by decide +kernel
theorem dX1_spinnerRests_14 : decode cX1_spinnerRests 14 = .ok (.if_icmp .gt 22, 3) := by decide +kernel
theorem dX1_spinnerRests_17 : decode cX1_spinnerRests 17 = .ok (.aload_n 0, 1) := by decide +kernel
theorem dX1_spinnerRests_18 : decode cX1_spinnerRests 18 = .ok (.iload_n 1, 1) := by decide +kernel
theorem dX1_spinnerRests_19 : decode cX1_spinnerRests 19 = .ok (.iload 4, 2) := by decide +kernel
theorem dX1_spinnerRests_21 : decode cX1_spinnerRests 21 = .ok (.invokevirtual 63, 3) := by decide +kernel
theorem dX1_spinnerRests_24 : decode cX1_spinnerRests 24 = .ok (.iload_n 3, 1) := by decide +kernel
theorem dX1_spinnerRests_25 : decode cX1_spinnerRests 25 = .ok (.if_icmp .le 5, 3) := by decide +kernel
theorem dX1_spinnerRests_28 : decode cX1_spinnerRests 28 = .ok (.iconst 0, 1) := by decide +kernel
theorem dX1_spinnerRests_29 : decode cX1_spinnerRests 29 = .ok (.ireturn, 1) := by decide +kernel
theorem dX1_spinnerRests_30 : decode cX1_spinnerRests 30 = .ok (.iinc 4 1, 3) := by decide +kernel
theorem dX1_spinnerRests_33 : decode cX1_spinnerRests 33 = .ok (.goto (-23), 3) := by decide +kernel
theorem dX1_spinnerRests_36 : decode cX1_spinnerRests 36 = .ok (.iconst 1, 1) := by decide +kernel
theorem dX1_spinnerRests_37 : decode cX1_spinnerRests 37 = .ok (.ireturn, 1) := by decide +kernel
theorem dX2_init_0 : decode cX2_init 0 = .ok (.aload_n 0, 1) := by decide +kernel
theorem dX2_init_1 : decode cX2_init 1 = .ok (.invokespecial 3, 3) := by decide +kernel
theorem dX2_init_4 : decode cX2_init 4 = .ok (.aload_n 0, 1) := by decide +kernel
theorem dX2_init_5 : decode cX2_init 5 = .ok (.bipush 20, 2) := by decide +kernel
theorem dX2_init_7 : decode cX2_init 7 = .ok (.putfield 9, 3) := by decide +kernel
theorem dX2_init_10 : decode cX2_init 10 = .ok (.aload_n 0, 1) := by decide +kernel
theorem dX2_init_11 : decode cX2_init 11 = .ok (.bipush 8, 2) := by decide +kernel
theorem dX2_init_13 : decode cX2_init 13 = .ok (.newarray .int, 2) := by decide +kernel
theorem dX2_init_15 : decode cX2_init 15 = .ok (.putfield 15, 3) := by decide +kernel
theorem dX2_init_18 : decode cX2_init 18 = .ok (.aload_n 0, 1) := by decide +kernel
theorem dX2_init_19 : decode cX2_init 19 = .ok (.bipush 8, 2) := by decide +kernel
theorem dX2_init_21 : decode cX2_init 21 = .ok (.bipush 9, 2) := by decide +kernel
theorem dX2_init_23 : decode cX2_init 23 = .ok (.multianewarray 19 2, 4) := by decide +kernel
theorem dX2_init_27 : decode cX2_init 27 = .ok (.putfield 21, 3) := by decide +kernel
theorem dX2_init_30 : decode cX2_init 30 = .ok (.aload_n 0, 1) := by decide +kernel
theorem dX2_init_31 : decode cX2_init 31 = .ok (.iconst 4, 1) := by decide +kernel
theorem dX2_init_32 : decode cX2_init 32 = .ok (.newarray .int, 2) := by decide +kernel
theorem dX2_init_34 : decode cX2_init 34 = .ok (.putfield 24, 3) := by decide +kernel
theorem dX2_init_37 : decode cX2_init 37 = .ok (.aload_n 0, 1) := by decide +kernel
theorem dX2_init_38 : decode cX2_init 38 = .ok (.iconst 4, 1) := by decide +kernel
theorem dX2_init_39 : decode cX2_init 39 = .ok (.iconst 4, 1) := by decide +kernel
theorem dX2_init_40 : decode cX2_init 40 = .ok (.multianewarray 19 2, 4) := by decide +kernel
theorem dX2_init_44 : decode cX2_init 44 = .ok (.putfield 27, 3) := by decide +kernel
theorem dX2_init_47 : decode cX2_init 47 = .ok (.aload_n 0, 1) := by decide +kernel
theorem dX2_init_48 : decode cX2_init 48 = .ok (.iconst 4, 1) := by decide +kernel
theorem dX2_init_49 : decode cX2_init 49 = .ok (.bipush 8, 2) := by decide +kernel
theorem dX2_init_51 : decode cX2_init 51 = .ok (.multianewarray 19 2, 4) := by decide +kernel
theorem dX2_init_55 : decode cX2_init 55 = .ok (.putfield 30, 3) := by decide +kernel
theorem dX2_init_58 : decode cX2_init 58 = .ok (.aload_n 0, 1) := by decide +kernel
theorem dX2_init_59 : decode cX2_init 59 = .ok (.iconst (-1), 1) := by decide +kernel
theorem dX2_init_60 : decode cX2_init 60 = .ok (.putfield 33, 3) := by decide +kernel
theorem dX2_init_63 : decode cX2_init 63 = .ok (.return_, 1) := by decide +kernel
theorem dX2_hasTale_0 : decode cX2_hasTale 0 = .ok (.iload_n 1, 1) := by decide +kernel
theorem dX2_hasTale_1 : decode cX2_hasTale 1 = .ok (.iconst 0, 1) := by decide +kernel
theorem dX2_hasTale_2 : decode cX2_hasTale 2 = .ok (.aload_n 0, 1) := by decide +kernel
theorem dX2_hasTale_3 : decode cX2_hasTale 3 = .ok (.getfield 36, 3) := by decide +kernel
theorem dX2_hasTale_6 : decode cX2_hasTale 6 = .ok (.iconst 1, 1) := by decide +kernel
theorem dX2_hasTale_7 : decode cX2_hasTale 7 = .ok (.isub, 1) := by decide +kernel
theorem dX2_hasTale_8 : decode cX2_hasTale 8 = .ok (.invokestatic 39, 3) := by decide +kernel
theorem dX2_hasTale_11 : decode cX2_hasTale 11 = .ok (.ireturn, 1) := by decide +kernel
theorem dX2_hasSentence_0 : decode cX2_hasSentence 0 = .ok (.aload_n 0, 1) := by decide +kernel
theorem dX2_hasSentence_1 : decode cX2_hasSentence 1 = .ok (.iload_n 1, 1) := by decide +kernel
theorem dX2_hasSentence_2 : decode cX2_hasSentence 2 = .ok (.invokevirtual 43, 3) := by decide +kernel
theorem dX2_hasSentence_5 : decode cX2_hasSentence 5 = .ok (.ifCond .eq 23, 3) := by decide +kernel
theorem dX2_hasSentence_8 : decode cX2_hasSentence 8 = .ok (.iload_n 2, 1) := by decide +kernel
theorem dX2_hasSentence_9 : decode cX2_hasSentence 9 = .ok (.iconst 0, 1) := by decide +kernel
theorem dX2_hasSentence_10 : decode cX2_hasSentence 10 = .ok (.aload_n 0, 1) := by decide +kernel
theorem dX2_hasSentence_11 : decode cX2_hasSentence 11 = .ok (.getfield 15, 3) := by decide +kernel
theorem dX2_hasSentence_14 : decode cX2_hasSentence 14 = .ok (.iload_n 1, 1) := by decide +kernel
theorem dX2_hasSentence_15 : decode cX2_hasSentence 15 = .ok (.iaload, 1) := by decide +kernel
theorem dX2_hasSentence_16 : decode cX2_hasSentence 16 = .ok (.iconst 1, 1) := by decide +kernel
theorem dX2_hasSentence_17 : decode cX2_hasSentence 17 = .ok (.isub, 1) := by decide +kernel
theorem dX2_hasSentence_18 : decode cX2_hasSentence 18 = .ok (.invokestatic 39, 3) := by decide +kernel
theorem dX2_hasSentence_21 : decode cX2_hasSentence 21 = .ok (.ifCond .eq 7, 3) := by decide +kernel
theorem dX2_hasSentence_24 : decode cX2_hasSentence 24 = .ok (.iconst 1, 1) := by decide +kernel
theorem dX2_hasSentence_25 : decode cX2_hasSentence 25 = .ok (.goto 4, 3) := by decide +kernel
theorem dX2_hasSentence_28 : decode cX2_hasSentence 28 = .ok (.iconst 0, 1) := by decide +kernel
theorem dX2_hasSentence_29 : decode cX2_hasSentence 29 = .ok (.ireturn, 1) := by decide +kernel
theorem dX2_hasTeller_0 : decode cX2_hasTeller 0 = .ok (.iload_n 1, 1) := by decide +kernel
theorem dX2_hasTeller_1 : decode cX2_hasTeller 1 = .ok (.iconst 0, 1) := by decide +kernel
theorem dX2_hasTeller_2 : decode cX2_hasTeller 2 = .ok (.aload_n 0, 1) := by decide +kernel
theorem dX2_hasTeller_3 : decode cX2_hasTeller 3 = .ok (.getfield 47, 3) := by decide +kernel
theorem dX2_hasTeller_6 : decode cX2_hasTeller 6 = .ok (.iconst 1, 1) := by decide +kernel
theorem dX2_hasTeller_7 : decode cX2_hasTeller 7 = .ok (.isub, 1) := by decide +kernel
theorem dX2_hasTeller_8 : decode cX2_hasTeller 8 = .ok (.invokestatic 39, 3) := by decide +kernel
theorem dX2_hasTeller_11 : decode cX2_hasTeller 11 = .ok (.ireturn, 1) := by decide +kernel
theorem dX2_hasSpinner_0 : decode cX2_hasSpinner 0 = .ok (.iload_n 1, 1) := by decide +kernel
theorem dX2_hasSpinner_1 : decode cX2_hasSpinner 1 = .ok (.iconst 0, 1) := by decide +kernel
theorem dX2_hasSpinner_2 : decode cX2_hasSpinner 2 = .ok (.aload_n 0, 1) := by decide +kernel
theorem dX2_hasSpinner_3 : decode cX2_hasSpinner 3 = .ok (.getfield 50, 3) := by decide +kernel
theorem dX2_hasSpinner_6 : decode cX2_hasSpinner 6 = .ok (.iconst 1, 1) := by decide +kernel
theorem dX2_hasSpinner_7 : decode cX2_hasSpinner 7 = .ok (.isub, 1) := by decide +kernel
theorem dX2_hasSpinner_8 : decode cX2_hasSpinner 8 = .ok (.invokestatic 39, 3) := by decide +kernel
theorem dX2_hasSpinner_11 : decode cX2_hasSpinner 11 = .ok (.ireturn, 1) := by decide +kernel
theorem dX2_hasAllOf_0 : decode cX2_hasAllOf 0 = .ok (.iload_n 1, 1) := by decide +kernel
theorem dX2_hasAllOf_1 : decode cX2_hasAllOf 1 = .ok (.iconst 0, 1) := by decide +kernel
theorem dX2_hasAllOf_2 : decode cX2_hasAllOf 2 = .ok (.iconst 1, 1) := by decide +kernel
theorem dX2_hasAllOf_3 : decode cX2_hasAllOf 3 = .ok (.aload_n 0, 1) := by decide +kernel
theorem dX2_hasAllOf_4 : decode cX2_hasAllOf 4 = .ok (.getfield 50, 3) := by decide +kernel
theorem dX2_hasAllOf_7 : decode cX2_hasAllOf 7 = .ok (.ishl, 1) := by decide +kernel
theorem dX2_hasAllOf_8 : decode cX2_hasAllOf 8 = .ok (.iconst 1, 1) := by decide +kernel
theorem dX2_hasAllOf_9 : decode cX2_hasAllOf 9 = .ok (.isub, 1) := by decide +kernel
theorem dX2_hasAllOf_10 : decode cX2_hasAllOf 10 = .ok (.invokestatic 39, 3) := by decide +kernel
theorem dX2_hasAllOf_13 : decode cX2_hasAllOf 13 = .ok (.ireturn, 1) := by decide +kernel
theorem dX2_addTale_0 : decode cX2_addTale 0 = .ok (.aload_n 1, 1) := by decide +kernel
theorem dX2_addTale_1 : decode cX2_addTale 1 = .ok (.iconst 0, 1) := by decide +kernel
theorem dX2_addTale_2 : decode cX2_addTale 2 = .ok (.aload_n 0, 1) := by decide +kernel
theorem dX2_addTale_3 : decode cX2_addTale 3 = .ok (.getfield 21, 3) := by decide +kernel
theorem dX2_addTale_6 : decode cX2_addTale 6 = .ok (.aload_n 0, 1) := by decide +kernel
theorem dX2_addTale_7 : decode cX2_addTale 7 = .ok (.getfield 36, 3) := by decide +kernel
theorem dX2_addTale_10 : decode cX2_addTale 10 = .ok (.aaload, 1) := by decide +kernel
theorem dX2_addTale_11 : decode cX2_addTale 11 = .ok (.iconst 0, 1) := by decide +kernel
theorem dX2_addTale_12 : decode cX2_addTale 12 = .ok (.iload_n 2, 1) := by decide +kernel
theorem dX2_addTale_13 : decode cX2_addTale 13 = .ok (.invokestatic 53, 3) := by decide +kernel
theorem dX2_addTale_16 : decode cX2_addTale 16 = .ok (.aload_n 0, 1) := by decide +kernel
theorem dX2_addTale_17 : decode cX2_addTale 17 = .ok (.getfield 15, 3) := by decide +kernel
theorem dX2_addTale_20 : decode cX2_addTale 20 = .ok (.aload_n 0, 1) := by decide +kernel
theorem dX2_addTale_21 : decode cX2_addTale 21 = .ok (.getfield 36, 3) := by decide +kernel
theorem dX2_addTale_24 : decode cX2_addTale 24 = .ok (.iload_n 2, 1) := by decide +kernel
theorem dX2_addTale_25 : decode cX2_addTale 25 = .ok (.iastore, 1) := by decide +kernel
theorem dX2_addTale_26 : decode cX2_addTale 26 = .ok (.aload_n 0, 1) := by decide +kernel
theorem dX2_addTale_27 : decode cX2_addTale 27 = .ok (.dup, 1) := by decide +kernel
theorem dX2_addTale_28 : decode cX2_addTale 28 = .ok (.getfield 36, 3) := by decide +kernel
theorem dX2_addTale_31 : decode cX2_addTale 31 = .ok (.dup_x1, 1) := by decide +kernel
theorem dX2_addTale_32 : decode cX2_addTale 32 = .ok (.iconst 1, 1) := by decide +kernel
theorem dX2_addTale_33 : decode cX2_addTale 33 = .ok (.iadd, 1) := by decide +kernel
theorem dX2_addTale_34 : decode cX2_addTale 34 = .ok (.putfield 36, 3) := by decide +kernel
theorem dX2_addTale_37 : decode cX2_addTale 37 = .ok (.ireturn, 1) := by decide +kernel
theorem dX2_tensionBy_0 : decode cX2_tensionBy 0 = .ok (.aload_n 0, 1) := by decide +kernel
theorem dX2_tensionBy_1 : decode cX2_tensionBy 1 = .ok (.getfield 24, 3) := by decide +kernel
theorem dX2_tensionBy_4 : decode cX2_tensionBy 4 = .ok (.iload_n 1, 1) := by decide +kernel
theorem dX2_tensionBy_5 : decode cX2_tensionBy 5 = .ok (.iaload, 1) := by decide +kernel
theorem dX2_tensionBy_6 : decode cX2_tensionBy 6 = .ok (.iconst 3, 1) := by decide +kernel
theorem dX2_tensionBy_7 : decode cX2_tensionBy 7 = .ok (.if_icmp .ne 16, 3) := by decide +kernel
theorem dX2_tensionBy_10 : decode cX2_tensionBy 10 = .ok (.aload_n 0, 1) := by decide +kernel
theorem dX2_tensionBy_11 : decode cX2_tensionBy 11 = .ok (.getfield 15, 3) := by decide +kernel
theorem dX2_tensionBy_14 : decode cX2_tensionBy 14 = .ok (.iload_n 2, 1) := by decide +kernel
theorem dX2_tensionBy_15 : decode cX2_tensionBy 15 = .ok (.iaload, 1) := by decide +kernel
theorem dX2_tensionBy_16 : decode cX2_tensionBy 16 = .ok (.iconst 1, 1) := by decide +kernel
theorem dX2_tensionBy_17 : decode cX2_tensionBy 17 = .ok (.isub, 1) := by decide +kernel
theorem dX2_tensionBy_18 : decode cX2_tensionBy 18 = .ok (.iload_n 3, 1) := by decide +kernel
theorem dX2_tensionBy_19 : decode cX2_tensionBy 19 = .ok (.isub, 1) := by decide +kernel
theorem dX2_tensionBy_20 : decode cX2_tensionBy 20 = .ok (.goto 4, 3) := by decide +kernel
theorem dX2_tensionBy_23 : decode cX2_tensionBy 23 = .ok (.iload_n 3, 1) := by decide +kernel
theorem dX2_tensionBy_24 : decode cX2_tensionBy 24 = .ok (.istore 4, 2) := by decide +kernel
theorem dX2_tensionBy_26 : decode cX2_tensionBy 26 = .ok (.aload_n 0, 1) := by decide +kernel
theorem dX2_tensionBy_27 : decode cX2_tensionBy 27 = .ok (.getfield 24, 3) := by decide +kernel
theorem dX2_tensionBy_30 : decode cX2_tensionBy 30 = .ok (.iload_n 1, 1) := by decide +kernel
theorem dX2_tensionBy_31 : decode cX2_tensionBy 31 = .ok (.iaload, 1) := by decide +kernel
theorem dX2_tensionBy_32 : decode cX2_tensionBy 32 = .ok (.aload_n 0, 1) := by decide +kernel
theorem dX2_tensionBy_33 : decode cX2_tensionBy 33 = .ok (.getfield 21, 3) := by decide +kernel
theorem dX2_tensionBy_36 : decode cX2_tensionBy 36 = .ok (.iload_n 2, 1) := by decide +kernel
theorem dX2_tensionBy_37 : decode cX2_tensionBy 37 = .ok (.aaload, 1) := by decide +kernel
theorem dX2_tensionBy_38 : decode cX2_tensionBy 38 = .ok (.iload 4, 2) := by decide +kernel
theorem dX2_tensionBy_40 : decode cX2_tensionBy 40 = .ok (.iaload, 1) := by decide +kernel
theorem dX2_tensionBy_41 : decode cX2_tensionBy 41 = .ok (.invokestatic 59, 3) := by decide +kernel
theorem dX2_tensionBy_44 : decode cX2_tensionBy 44 = .ok (.ireturn, 1) := by decide +kernel
theorem dX2_isInMind_0 : decode cX2_isInMind 0 = .ok (.aload_n 0, 1) := by decide +kernel
theorem dX2_isInMind_1 : decode cX2_isInMind 1 = .ok (.getfield 30, 3) := by decide +kernel
theorem dX2_isInMind_4 : decode cX2_isInMind 4 = .ok (.iload_n 1, 1) := by decide +kernel
theorem dX2_isInMind_5 : decode cX2_isInMind 5 = .ok (.aaload, 1) := by decide +kernel
theorem dX2_isInMind_6 : decode cX2_isInMind 6 = .ok (.iload_n 2, 1) := by decide +kernel
theorem dX2_isInMind_7 : decode cX2_isInMind 7 = .ok (.iaload, 1) := by decide +kernel
theorem dX2_isInMind_8 : decode cX2_isInMind 8 = .ok (.iload_n 3, 1) := by decide +kernel
theorem dX2_isInMind_9 : decode cX2_isInMind 9 = .ok (.aload_n 0, 1) := by decide +kernel
theorem dX2_isInMind_10 : decode cX2_isInMind 10 = .ok (.getfield 9, 3) := by decide +kernel
theorem dX2_isInMind_13 : decode cX2_isInMind 13 = .ok (.invokestatic 63, 3) := by decide +kernel
theorem dX2_isInMind_16 : decode cX2_isInMind 16 = .ok (.ireturn, 1) := by decide +kernel
theorem dX2_spend_0 : decode cX2_spend 0 = .ok (.aload_n 0, 1) := by decide +kernel
theorem dX2_spend_1 : decode cX2_spend 1 = .ok (.getfield 33, 3) := by decide +kernel
theorem dX2_spend_4 : decode cX2_spend 4 = .ok (.iload_n 2, 1) := by decide +kernel
theorem dX2_spend_5 : decode cX2_spend 5 = .ok (.if_icmp .ne 15, 3) := by decide +kernel
theorem dX2_spend_8 : decode cX2_spend 8 = .ok (.aload_n 0, 1) := by decide +kernel
theorem dX2_spend_9 : decode cX2_spend 9 = .ok (.getfield 66, 3) := by decide +kernel
theorem dX2_spend_12 : decode cX2_spend 12 = .ok (.iload_n 1, 1) := by decide +kernel
theorem dX2_spend_13 : decode cX2_spend 13 = .ok (.if_icmp .ne 7, 3) := by decide +kernel
theorem dX2_spend_16 : decode cX2_spend 16 = .ok (.iconst 1, 1) := by decide +kernel
theorem dX2_spend_17 : decode cX2_spend 17 = .ok (.goto 4, 3) := by decide +kernel
theorem dX2_spend_20 : decode cX2_spend 20 = .ok (.iconst 0, 1) := by decide +kernel
theorem dX2_spend_21 : decode cX2_spend 21 = .ok (.istore 5, 2) := by decide +kernel
theorem dX2_spend_23 : decode cX2_spend 23 = .ok (.iload 5, 2) := by decide +kernel
theorem dX2_spend_25 : decode cX2_spend 25 = .ok (.ifCond .eq 10, 3) := by decide +kernel
theorem dX2_spend_28 : decode cX2_spend 28 = .ok (.aload_n 0, 1) := by decide +kernel
theorem dX2_spend_29 : decode cX2_spend 29 = .ok (.getfield 69, 3) := by decide +kernel
theorem dX2_spend_32 : decode cX2_spend 32 = .ok (.goto 4, 3) := by decide +kernel
theorem dX2_spend_35 : decode cX2_spend 35 = .ok (.iconst 0, 1) := by decide +kernel
theorem dX2_spend_36 : decode cX2_spend 36 = .ok (.istore 6, 2) := by decide +kernel
theorem dX2_spend_38 : decode cX2_spend 38 = .ok (.iload 6, 2) := by decide +kernel
theorem dX2_spend_40 : decode cX2_spend 40 = .ok (.iload_n 3, 1) := by decide +kernel
theorem dX2_spend_41 : decode cX2_spend 41 = .ok (.iadd, 1) := by decide +kernel
theorem dX2_spend_42 : decode cX2_spend 42 = .ok (.aload_n 0, 1) := by decide +kernel
theorem dX2_spend_43 : decode cX2_spend 43 = .ok (.getfield 15, 3) := by decide +kernel
theorem dX2_spend_46 : decode cX2_spend 46 = .ok (.iload_n 2, 1) := by decide +kernel
theorem dX2_spend_47 : decode cX2_spend 47 = .ok (.iaload, 1) := by decide +kernel
theorem dX2_spend_48 : decode cX2_spend 48 = .ok (.invokestatic 72, 3) := by decide +kernel
theorem dX2_spend_51 : decode cX2_spend 51 = .ok (.istore 7, 2) := by decide +kernel
theorem dX2_spend_53 : decode cX2_spend 53 = .ok (.aload_n 0, 1) := by decide +kernel
theorem dX2_spend_54 : decode cX2_spend 54 = .ok (.iload 5, 2) := by decide +kernel
theorem dX2_spend_56 : decode cX2_spend 56 = .ok (.ifCond .eq 13, 3) := by decide +kernel
theorem dX2_spend_59 : decode cX2_spend 59 = .ok (.aload_n 0, 1) := by decide +kernel
theorem dX2_spend_60 : decode cX2_spend 60 = .ok (.getfield 77, 3) := by decide +kernel
theorem dX2_spend_63 : decode cX2_spend 63 = .ok (.iload 4, 2) := by decide +kernel
theorem dX2_spend_65 : decode cX2_spend 65 = .ok (.iand, 1) := by decide +kernel
theorem dX2_spend_66 : decode cX2_spend 66 = .ok (.goto 5, 3) := by decide +kernel
theorem dX2_spend_69 : decode cX2_spend 69 = .ok (.iload 4, 2) := by decide +kernel
theorem dX2_spend_71 : decode cX2_spend 71 = .ok (.putfield 77, 3) := by decide +kernel
theorem dX2_spend_74 : decode cX2_spend 74 = .ok (.aload_n 0, 1) := by decide +kernel
theorem dX2_spend_75 : decode cX2_spend 75 = .ok (.dup, 1) := by decide +kernel
theorem dX2_spend_76 : decode cX2_spend 76 = .ok (.getfield 80, 3) := by decide +kernel
theorem dX2_spend_79 : decode cX2_spend 79 = .ok (.iconst 1, 1) := by decide +kernel
theorem dX2_spend_80 : decode cX2_spend 80 = .ok (.iadd, 1) := by decide +kernel
theorem dX2_spend_81 : decode cX2_spend 81 = .ok (.putfield 80, 3) := by decide +kernel
theorem dX2_spend_84 : decode cX2_spend 84 = .ok (.iconst 0, 1) := by decide +kernel
theorem dX2_spend_85 : decode cX2_spend 85 = .ok (.istore 8, 2) := by decide +kernel
theorem dX2_spend_87 : decode cX2_spend 87 = .ok (.iload 8, 2) := by decide +kernel
theorem dX2_spend_89 : decode cX2_spend 89 = .ok (.aload_n 0, 1) := by decide +kernel
theorem dX2_spend_90 : decode cX2_spend 90 = .ok (.getfield 50, 3) := by decide +kernel
theorem dX2_spend_93 : decode cX2_spend 93 = .ok (.if_icmp .ge 47, 3) := by decide +kernel
theorem dX2_spend_96 : decode cX2_spend 96 = .ok (.iload 4, 2) := by decide +kernel
theorem dX2_spend_98 : decode cX2_spend 98 = .ok (.iload 8, 2) := by decide +kernel
theorem dX2_spend_100 : decode cX2_spend 100 = .ok (.ishr, 1) := by decide +kernel
theorem dX2_spend_101 : decode cX2_spend 101 = .ok (.iconst 1, 1) := by decide +kernel
theorem dX2_spend_102 : decode cX2_spend 102 = .ok (.iand, 1) := by decide +kernel
theorem dX2_spend_103 : decode cX2_spend 103 = .ok (.ifCond .eq 31, 3) := by decide +kernel
theorem dX2_spend_106 : decode cX2_spend 106 = .ok (.aload_n 0, 1) := by decide +kernel
theorem dX2_spend_107 : decode cX2_spend 107 = .ok (.aload_n 0, 1) := by decide +kernel
theorem dX2_spend_108 : decode cX2_spend 108 = .ok (.getfield 27, 3) := by decide +kernel
theorem dX2_spend_111 : decode cX2_spend 111 = .ok (.iload 8, 2) := by decide +kernel
theorem dX2_spend_113 : decode cX2_spend 113 = .ok (.aaload, 1) := by decide +kernel
theorem dX2_spend_114 : decode cX2_spend 114 = .ok (.iload_n 1, 1) := by decide +kernel
theorem dX2_spend_115 : decode cX2_spend 115 = .ok (.iload_n 2, 1) := by decide +kernel
theorem dX2_spend_116 : decode cX2_spend 116 = .ok (.iload 6, 2) := by decide +kernel
theorem dX2_spend_118 : decode cX2_spend 118 = .ok (.iload 7, 2) := by decide +kernel
theorem dX2_spend_120 : decode cX2_spend 120 = .ok (.aload_n 0, 1) := by decide +kernel
theorem dX2_spend_121 : decode cX2_spend 121 = .ok (.iload 8, 2) := by decide +kernel
theorem dX2_spend_123 : decode cX2_spend 123 = .ok (.iload_n 2, 1) := by decide +kernel
theorem dX2_spend_124 : decode cX2_spend 124 = .ok (.aload_n 0, 1) := by decide +kernel
theorem dX2_spend_125 : decode cX2_spend 125 = .ok (.getfield 80, 3) := by decide +kernel
theorem dX2_spend_128 : decode cX2_spend 128 = .ok (.invokevirtual 83, 3) := by decide +kernel
theorem dX2_spend_131 : decode cX2_spend 131 = .ok (.invokevirtual 86, 3) := by decide +kernel
theorem dX2_spend_134 : decode cX2_spend 134 = .ok (.iinc 8 1, 3) := by decide +kernel
theorem dX2_spend_137 : decode cX2_spend 137 = .ok (.goto (-50), 3) := by decide +kernel
theorem dX2_spend_140 : decode cX2_spend 140 = .ok (.iload 7, 2) := by decide +kernel
theorem dX2_spend_142 : decode cX2_spend 142 = .ok (.aload_n 0, 1) := by decide +kernel
theorem dX2_spend_143 : decode cX2_spend 143 = .ok (.getfield 15, 3) := by decide +kernel
theorem dX2_spend_146 : decode cX2_spend 146 = .ok (.iload_n 2, 1) := by decide +kernel
theorem dX2_spend_147 : decode cX2_spend 147 = .ok (.iaload, 1) := by decide +kernel
theorem dX2_spend_148 : decode cX2_spend 148 = .ok (.if_icmp .ge 22, 3) := by decide +kernel
theorem dX2_spend_151 : decode cX2_spend 151 = .ok (.aload_n 0, 1) := by decide +kernel
theorem dX2_spend_152 : decode cX2_spend 152 = .ok (.iload_n 2, 1) := by decide +kernel
theorem dX2_spend_153 : decode cX2_spend 153 = .ok (.putfield 33, 3) := by decide +kernel
theorem dX2_spend_156 : decode cX2_spend 156 = .ok (.aload_n 0, 1) := by decide +kernel
theorem dX2_spend_157 : decode cX2_spend 157 = .ok (.iload_n 1, 1) := by decide +kernel
theorem dX2_spend_158 : decode cX2_spend 158 = .ok (.putfield 66, 3) := by decide +kernel
theorem dX2_spend_161 : decode cX2_spend 161 = .ok (.aload_n 0, 1) := by decide +kernel
theorem dX2_spend_162 : decode cX2_spend 162 = .ok (.iload 7, 2) := by decide +kernel
theorem dX2_spend_164 : decode cX2_spend 164 = .ok (.putfield 69, 3) := by decide +kernel
theorem dX2_spend_167 : decode cX2_spend 167 = .ok (.goto 17, 3) := by decide +kernel
theorem dX2_spend_170 : decode cX2_spend 170 = .ok (.aload_n 0, 1) := by decide +kernel
theorem dX2_spend_171 : decode cX2_spend 171 = .ok (.iconst (-1), 1) := by decide +kernel
theorem dX2_spend_172 : decode cX2_spend 172 = .ok (.putfield 33, 3) := by decide +kernel
theorem dX2_spend_175 : decode cX2_spend 175 = .ok (.aload_n 0, 1) := by decide +kernel
theorem dX2_spend_176 : decode cX2_spend 176 = .ok (.iload_n 2, 1) := by decide +kernel
theorem dX2_spend_177 : decode cX2_spend 177 = .ok (.aload_n 0, 1) := by decide +kernel
theorem dX2_spend_178 : decode cX2_spend 178 = .ok (.getfield 77, 3) := by decide +kernel
theorem dX2_spend_181 : decode cX2_spend 181 = .ok (.invokevirtual 90, 3) := by decide +kernel
theorem dX2_spend_184 : decode cX2_spend 184 = .ok (.iload 7, 2) := by decide +kernel
theorem dX2_spend_186 : decode cX2_spend 186 = .ok (.iload 6, 2) := by decide +kernel
theorem dX2_spend_188 : decode cX2_spend 188 = .ok (.isub, 1) := by decide +kernel
theorem dX2_spend_189 : decode cX2_spend 189 = .ok (.iload 4, 2) := by decide +kernel
theorem dX2_spend_191 : decode cX2_spend 191 = .ok (.invokestatic 94, 3) := by decide +kernel
theorem dX2_spend_194 : decode cX2_spend 194 = .ok (.imul, 1) := by decide +kernel
theorem dX2_spend_195 : decode cX2_spend 195 = .ok (.ireturn, 1) := by decide +kernel
theorem dX2_spin_0 : decode cX2_spin 0 = .ok (.iload 4, 2) := by decide +kernel
theorem dX2_spin_2 : decode cX2_spin 2 = .ok (.istore 7, 2) := by decide +kernel
theorem dX2_spin_4 : decode cX2_spin 4 = .ok (.iload 7, 2) := by decide +kernel
theorem dX2_spin_6 : decode cX2_spin 6 = .ok (.iload 5, 2) := by decide +kernel
theorem dX2_spin_8 : decode cX2_spin 8 = .ok (.if_icmp .ge 43, 3) := by decide +kernel
theorem dX2_spin_11 : decode cX2_spin 11 = .ok (.aload_n 0, 1) := by decide +kernel
theorem dX2_spin_12 : decode cX2_spin 12 = .ok (.iload_n 2, 1) := by decide +kernel
theorem dX2_spin_13 : decode cX2_spin 13 = .ok (.iload_n 3, 1) := by decide +kernel
theorem dX2_spin_14 : decode cX2_spin 14 = .ok (.iload 7, 2) := by decide +kernel
theorem dX2_spin_16 : decode cX2_spin 16 = .ok (.invokevirtual 100, 3) := by decide +kernel
theorem dX2_spin_19 : decode cX2_spin 19 = .ok (.invokestatic 104, 3) := by decide +kernel
theorem dX2_spin_22 : decode cX2_spin 22 = .ok (.istore 8, 2) := by decide +kernel
theorem dX2_spin_24 : decode cX2_spin 24 = .ok (.aload_n 1, 1) := by decide +kernel
theorem dX2_spin_25 : decode cX2_spin 25 = .ok (.iload 6, 2) := by decide +kernel
theorem dX2_spin_27 : decode cX2_spin 27 = .ok (.ifCond .eq 11, 3) := by decide +kernel
theorem dX2_spin_30 : decode cX2_spin 30 = .ok (.iload 8, 2) := by decide +kernel
theorem dX2_spin_32 : decode cX2_spin 32 = .ok (.invokestatic 107, 3) := by decide +kernel
theorem dX2_spin_35 : decode cX2_spin 35 = .ok (.goto 5, 3) := by decide +kernel
theorem dX2_spin_38 : decode cX2_spin 38 = .ok (.iload 8, 2) := by decide +kernel
theorem dX2_spin_40 : decode cX2_spin 40 = .ok (.dup2, 1) := by decide +kernel
theorem dX2_spin_41 : decode cX2_spin 41 = .ok (.iaload, 1) := by decide +kernel
theorem dX2_spin_42 : decode cX2_spin 42 = .ok (.iconst 1, 1) := by decide +kernel
theorem dX2_spin_43 : decode cX2_spin 43 = .ok (.iadd, 1) := by decide +kernel
theorem dX2_spin_44 : decode cX2_spin 44 = .ok (.iastore, 1) := by decide +kernel
theorem dX2_spin_45 : decode cX2_spin 45 = .ok (.iinc 7 1, 3) := by decide +kernel
theorem dX2_spin_48 : decode cX2_spin 48 = .ok (.goto (-44), 3) := by decide +kernel
theorem dX2_spin_51 : decode cX2_spin 51 = .ok (.return_, 1) := by decide +kernel
theorem dX2_keepInMind_0 : decode cX2_keepInMind 0 = .ok (.iconst 0, 1) := by decide +kernel
theorem dX2_keepInMind_1 : decode cX2_keepInMind 1 = .ok (.istore_n 3, 1) := by decide +kernel
theorem dX2_keepInMind_2 : decode cX2_keepInMind 2 = .ok (.iload_n 3, 1) := by decide +kernel
theorem dX2_keepInMind_3 : decode cX2_keepInMind 3 = .ok (.aload_n 0, 1) := by decide +kernel
theorem dX2_keepInMind_4 : decode cX2_keepInMind 4 = .ok (.getfield 50, 3) := by decide +kernel
theorem dX2_keepInMind_7 : decode cX2_keepInMind 7 = .ok (.if_icmp .ge 29, 3) := by decide +kernel
theorem dX2_keepInMind_10 : decode cX2_keepInMind 10 = .ok (.iload_n 2, 1) := by decide +kernel
theorem dX2_keepInMind_11 : decode cX2_keepInMind 11 = .ok (.iload_n 3, 1) := by decide +kernel
theorem dX2_keepInMind_12 : decode cX2_keepInMind 12 = .ok (.ishr, 1) := by decide +kernel
theorem dX2_keepInMind_13 : decode cX2_keepInMind 13 = .ok (.iconst 1, 1) := by decide +kernel
theorem dX2_keepInMind_14 : decode cX2_keepInMind 14 = .ok (.iand, 1) := by decide +kernel
theorem dX2_keepInMind_15 : decode cX2_keepInMind 15 = .ok (.ifCond .eq 15, 3) := by decide +kernel
theorem dX2_keepInMind_18 : decode cX2_keepInMind 18 = .ok (.aload_n 0, 1) := by decide +kernel
theorem dX2_keepInMind_19 : decode cX2_keepInMind 19 = .ok (.getfield 30, 3) := by decide +kernel
theorem dX2_keepInMind_22 : decode cX2_keepInMind 22 = .ok (.iload_n 3, 1) := by decide +kernel
theorem dX2_keepInMind_23 : decode cX2_keepInMind 23 = .ok (.aaload, 1) := by decide +kernel
theorem dX2_keepInMind_24 : decode cX2_keepInMind 24 = .ok (.iload_n 1, 1) := by decide +kernel
theorem dX2_keepInMind_25 : decode cX2_keepInMind 25 = .ok (.aload_n 0, 1) := by decide +kernel
theorem dX2_keepInMind_26 : decode cX2_keepInMind 26 = .ok (.getfield 80, 3) := by decide +kernel
theorem dX2_keepInMind_29 : decode cX2_keepInMind 29 = .ok (.iastore, 1) := by decide +kernel
theorem dX2_keepInMind_30 : decode cX2_keepInMind 30 = .ok (.iinc 3 1, 3) := by decide +kernel
theorem dX2_keepInMind_33 : decode cX2_keepInMind 33 = .ok (.goto (-31), 3) := by decide +kernel
theorem dX2_keepInMind_36 : decode cX2_keepInMind 36 = .ok (.return_, 1) := by decide +kernel
theorem dX2_tangleInto_0 : decode cX2_tangleInto 0 = .ok (.iconst 0, 1) := by decide +kernel
theorem dX2_tangleInto_1 : decode cX2_tangleInto 1 = .ok (.istore 4, 2) := by decide +kernel
theorem dX2_tangleInto_3 : decode cX2_tangleInto 3 = .ok (.iconst 0, 1) := by decide +kernel
theorem dX2_tangleInto_4 : decode cX2_tangleInto 4 = .ok (.istore 5, 2) := by decide +kernel
theorem dX2_tangleInto_6 : decode cX2_tangleInto 6 = .ok (.iload 5, 2) := by decide +kernel
theorem dX2_tangleInto_8 : decode cX2_tangleInto 8 = .ok (.bipush 9, 2) := by decide +kernel
theorem dX2_tangleInto_10 : decode cX2_tangleInto 10 = .ok (.if_icmp .ge 63, 3) := by decide +kernel
theorem dX2_tangleInto_13 : decode cX2_tangleInto 13 = .ok (.iload 5, 2) := by decide +kernel
theorem dX2_tangleInto_15 : decode cX2_tangleInto 15 = .ok (.aload_n 0, 1) := by decide +kernel
theorem dX2_tangleInto_16 : decode cX2_tangleInto 16 = .ok (.getfield 15, 3) := by decide +kernel
theorem dX2_tangleInto_19 : decode cX2_tangleInto 19 = .ok (.iload_n 2, 1) := by decide +kernel
theorem dX2_tangleInto_20 : decode cX2_tangleInto 20 = .ok (.iaload, 1) := by decide +kernel
theorem dX2_tangleInto_21 : decode cX2_tangleInto 21 = .ok (.if_icmp .ge 19, 3) := by decide +kernel
theorem dX2_tangleInto_24 : decode cX2_tangleInto 24 = .ok (.aload_n 1, 1) := by decide +kernel
theorem dX2_tangleInto_25 : decode cX2_tangleInto 25 = .ok (.iload 4, 2) := by decide +kernel
theorem dX2_tangleInto_27 : decode cX2_tangleInto 27 = .ok (.iinc 4 1, 3) := by decide +kernel
theorem dX2_tangleInto_30 : decode cX2_tangleInto 30 = .ok (.aload_n 0, 1) := by decide +kernel
theorem dX2_tangleInto_31 : decode cX2_tangleInto 31 = .ok (.getfield 21, 3) := by decide +kernel
theorem dX2_tangleInto_34 : decode cX2_tangleInto 34 = .ok (.iload_n 2, 1) := by decide +kernel
theorem dX2_tangleInto_35 : decode cX2_tangleInto 35 = .ok (.aaload, 1) := by decide +kernel
theorem dX2_tangleInto_36 : decode cX2_tangleInto 36 = .ok (.iload 5, 2) := by decide +kernel
theorem dX2_tangleInto_38 : decode cX2_tangleInto 38 = .ok (.iaload, 1) := by decide +kernel
theorem dX2_tangleInto_39 : decode cX2_tangleInto 39 = .ok (.iastore, 1) := by decide +kernel
theorem dX2_tangleInto_40 : decode cX2_tangleInto 40 = .ok (.iload 5, 2) := by decide +kernel
theorem dX2_tangleInto_42 : decode cX2_tangleInto 42 = .ok (.aload_n 0, 1) := by decide +kernel
theorem dX2_tangleInto_43 : decode cX2_tangleInto 43 = .ok (.getfield 15, 3) := by decide +kernel
theorem dX2_tangleInto_46 : decode cX2_tangleInto 46 = .ok (.iload_n 3, 1) := by decide +kernel
theorem dX2_tangleInto_47 : decode cX2_tangleInto 47 = .ok (.iaload, 1) := by decide +kernel
theorem dX2_tangleInto_48 : decode cX2_tangleInto 48 = .ok (.if_icmp .ge 19, 3) := by decide +kernel
theorem dX2_tangleInto_51 : decode cX2_tangleInto 51 = .ok (.aload_n 1, 1) := by decide +kernel
theorem dX2_tangleInto_52 : decode cX2_tangleInto 52 = .ok (.iload 4, 2) := by decide +kernel
theorem dX2_tangleInto_54 : decode cX2_tangleInto 54 = .ok (.iinc 4 1, 3) := by decide +kernel
theorem dX2_tangleInto_57 : decode cX2_tangleInto 57 = .ok (.aload_n 0, 1) := by decide +kernel
theorem dX2_tangleInto_58 : decode cX2_tangleInto 58 = .ok (.getfield 21, 3) := by decide +kernel
theorem dX2_tangleInto_61 : decode cX2_tangleInto 61 = .ok (.iload_n 3, 1) := by decide +kernel
theorem dX2_tangleInto_62 : decode cX2_tangleInto 62 = .ok (.aaload, 1) := by decide +kernel
theorem dX2_tangleInto_63 : decode cX2_tangleInto 63 = .ok (.iload 5, 2) := by decide +kernel
theorem dX2_tangleInto_65 : decode cX2_tangleInto 65 = .ok (.iaload, 1) := by decide +kernel
theorem dX2_tangleInto_66 : decode cX2_tangleInto 66 = .ok (.iastore, 1) := by decide +kernel
theorem dX2_tangleInto_67 : decode cX2_tangleInto 67 = .ok (.iinc 5 1, 3) := by decide +kernel
theorem dX2_tangleInto_70 : decode cX2_tangleInto 70 = .ok (.goto (-64), 3) := by decide +kernel
theorem dX2_tangleInto_73 : decode cX2_tangleInto 73 = .ok (.iload 4, 2) := by decide +kernel
theorem dX2_tangleInto_75 : decode cX2_tangleInto 75 = .ok (.ireturn, 1) := by decide +kernel
theorem dX2_becomeLike_0 : decode cX2_becomeLike 0 = .ok (.aload_n 0, 1) := by decide +kernel
theorem dX2_becomeLike_1 : decode cX2_becomeLike 1 = .ok (.aload_n 1, 1) := by decide +kernel
theorem dX2_becomeLike_2 : decode cX2_becomeLike 2 = .ok (.getfield 36, 3) := by decide +kernel
theorem dX2_becomeLike_5 : decode cX2_becomeLike 5 = .ok (.putfield 36, 3) := by decide +kernel
theorem dX2_becomeLike_8 : decode cX2_becomeLike 8 = .ok (.aload_n 0, 1) := by decide +kernel
theorem dX2_becomeLike_9 : decode cX2_becomeLike 9 = .ok (.aload_n 1, 1) := by decide +kernel
theorem dX2_becomeLike_10 : decode cX2_becomeLike 10 = .ok (.getfield 47, 3) := by decide +kernel
theorem dX2_becomeLike_13 : decode cX2_becomeLike 13 = .ok (.putfield 47, 3) := by decide +kernel
theorem dX2_becomeLike_16 : decode cX2_becomeLike 16 = .ok (.aload_n 0, 1) := by decide +kernel
theorem dX2_becomeLike_17 : decode cX2_becomeLike 17 = .ok (.aload_n 1, 1) := by decide +kernel
theorem dX2_becomeLike_18 : decode cX2_becomeLike 18 = .ok (.getfield 50, 3) := by decide +kernel
theorem dX2_becomeLike_21 : decode cX2_becomeLike 21 = .ok (.putfield 50, 3) := by decide +kernel
theorem dX2_becomeLike_24 : decode cX2_becomeLike 24 = .ok (.aload_n 0, 1) := by decide +kernel
theorem dX2_becomeLike_25 : decode cX2_becomeLike 25 = .ok (.aload_n 1, 1) := by decide +kernel
theorem dX2_becomeLike_26 : decode cX2_becomeLike 26 = .ok (.getfield 80, 3) := by decide +kernel
theorem dX2_becomeLike_29 : decode cX2_becomeLike 29 = .ok (.putfield 80, 3) := by decide +kernel
theorem dX2_becomeLike_32 : decode cX2_becomeLike 32 = .ok (.aload_n 0, 1) := by decide +kernel
theorem dX2_becomeLike_33 : decode cX2_becomeLike 33 = .ok (.aload_n 1, 1) := by decide +kernel
theorem dX2_becomeLike_34 : decode cX2_becomeLike 34 = .ok (.getfield 9, 3) := by decide +kernel
theorem dX2_becomeLike_37 : decode cX2_becomeLike 37 = .ok (.putfield 9, 3) := by decide +kernel
theorem dX2_becomeLike_40 : decode cX2_becomeLike 40 = .ok (.aload_n 0, 1) := by decide +kernel
theorem dX2_becomeLike_41 : decode cX2_becomeLike 41 = .ok (.aload_n 1, 1) := by decide +kernel
theorem dX2_becomeLike_42 : decode cX2_becomeLike 42 = .ok (.getfield 33, 3) := by decide +kernel
theorem dX2_becomeLike_45 : decode cX2_becomeLike 45 = .ok (.putfield 33, 3) := by decide +kernel
theorem dX2_becomeLike_48 : decode cX2_becomeLike 48 = .ok (.aload_n 0, 1) := by decide +kernel
theorem dX2_becomeLike_49 : decode cX2_becomeLike 49 = .ok (.aload_n 1, 1) := by decide +kernel
theorem dX2_becomeLike_50 : decode cX2_becomeLike 50 = .ok (.getfield 66, 3) := by decide +kernel
theorem dX2_becomeLike_53 : decode cX2_becomeLike 53 = .ok (.putfield 66, 3) := by decide +kernel
theorem dX2_becomeLike_56 : decode cX2_becomeLike 56 = .ok (.aload_n 0, 1) := by decide +kernel
theorem dX2_becomeLike_57 : decode cX2_becomeLike 57 = .ok (.aload_n 1, 1) := by decide +kernel
theorem dX2_becomeLike_58 : decode cX2_becomeLike 58 = .ok (.getfield 69, 3) := by decide +kernel
theorem dX2_becomeLike_61 : decode cX2_becomeLike 61 = .ok (.putfield 69, 3) := by decide +kernel
theorem dX2_becomeLike_64 : decode cX2_becomeLike 64 = .ok (.aload_n 0, 1) := by decide +kernel
theorem dX2_becomeLike_65 : decode cX2_becomeLike 65 = .ok (.aload_n 1, 1) := by decide +kernel
theorem dX2_becomeLike_66 : decode cX2_becomeLike 66 = .ok (.getfield 77, 3) := by decide +kernel
theorem dX2_becomeLike_69 : decode cX2_becomeLike 69 = .ok (.putfield 77, 3) := by decide +kernel
theorem dX2_becomeLike_72 : decode cX2_becomeLike 72 = .ok (.aload_n 1, 1) := by decide +kernel
theorem dX2_becomeLike_73 : decode cX2_becomeLike 73 = .ok (.getfield 15, 3) := by decide +kernel
theorem dX2_becomeLike_76 : decode cX2_becomeLike 76 = .ok (.iconst 0, 1) := by decide +kernel
theorem dX2_becomeLike_77 : decode cX2_becomeLike 77 = .ok (.aload_n 0, 1) := by decide +kernel
theorem dX2_becomeLike_78 : decode cX2_becomeLike 78 = .ok (.getfield 15, 3) := by decide +kernel
theorem dX2_becomeLike_81 : decode cX2_becomeLike 81 = .ok (.iconst 0, 1) := by decide +kernel
theorem dX2_becomeLike_82 : decode cX2_becomeLike 82 = .ok (.bipush 8, 2) := by decide +kernel
theorem dX2_becomeLike_84 : decode cX2_becomeLike 84 = .ok (.invokestatic 53, 3) := by decide +kernel
theorem dX2_becomeLike_87 : decode cX2_becomeLike 87 = .ok (.aload_n 1, 1) := by decide +kernel
theorem dX2_becomeLike_88 : decode cX2_becomeLike 88 = .ok (.getfield 24, 3) := by decide +kernel
theorem dX2_becomeLike_91 : decode cX2_becomeLike 91 = .ok (.iconst 0, 1) := by decide +kernel
theorem dX2_becomeLike_92 : decode cX2_becomeLike 92 = .ok (.aload_n 0, 1) := by decide +kernel
theorem dX2_becomeLike_93 : decode cX2_becomeLike 93 = .ok (.getfield 24, 3) := by decide +kernel
theorem dX2_becomeLike_96 : decode cX2_becomeLike 96 = .ok (.iconst 0, 1) := by decide +kernel
theorem dX2_becomeLike_97 : decode cX2_becomeLike 97 = .ok (.iconst 4, 1) := by decide +kernel
theorem dX2_becomeLike_98 : decode cX2_becomeLike 98 = .ok (.invokestatic 53, 3) := by decide +kernel
theorem dX2_becomeLike_101 : decode cX2_becomeLike 101 = .ok (.iconst 0, 1) := by decide +kernel
theorem dX2_becomeLike_102 : decode cX2_becomeLike 102 = .ok (.istore_n 2, 1) := by decide +kernel
theorem dX2_becomeLike_103 : decode cX2_becomeLike 103 = .ok (.iload_n 2, 1) := by decide +kernel
theorem dX2_becomeLike_104 : decode cX2_becomeLike 104 = .ok (.bipush 8, 2) := by decide +kernel
theorem dX2_becomeLike_106 : decode cX2_becomeLike 106 = .ok (.if_icmp .ge 28, 3) := by decide +kernel
theorem dX2_becomeLike_109 : decode cX2_becomeLike 109 = .ok (.aload_n 1, 1) := by decide +kernel
theorem dX2_becomeLike_110 : decode cX2_becomeLike 110 = .ok (.getfield 21, 3) := by decide +kernel
theorem dX2_becomeLike_113 : decode cX2_becomeLike 113 = .ok (.iload_n 2, 1) := by decide +kernel
theorem dX2_becomeLike_114 : decode cX2_becomeLike 114 = .ok (.aaload, 1) := by decide +kernel
theorem dX2_becomeLike_115 : decode cX2_becomeLike 115 = .ok (.iconst 0, 1) := by decide +kernel
theorem dX2_becomeLike_116 : decode cX2_becomeLike 116 = .ok (.aload_n 0, 1) := by decide +kernel
theorem dX2_becomeLike_117 : decode cX2_becomeLike 117 = .ok (.getfield 21, 3) := by decide +kernel
theorem dX2_becomeLike_120 : decode cX2_becomeLike 120 = .ok (.iload_n 2, 1) := by decide +kernel
theorem dX2_becomeLike_121 : decode cX2_becomeLike 121 = .ok (.aaload, 1) := by decide +kernel
theorem dX2_becomeLike_122 : decode cX2_becomeLike 122 = .ok (.iconst 0, 1) := by decide +kernel
theorem dX2_becomeLike_123 : decode cX2_becomeLike 123 = .ok (.bipush 9, 2) := by decide +kernel
theorem dX2_becomeLike_125 : decode cX2_becomeLike 125 = .ok (.invokestatic 53, 3) := by decide +kernel
theorem dX2_becomeLike_128 : decode cX2_becomeLike 128 = .ok (.iinc 2 1, 3) := by decide +kernel
theorem dX2_becomeLike_131 : decode cX2_becomeLike 131 = .ok (.goto (-28), 3) := by decide +kernel
theorem dX2_becomeLike_134 : decode cX2_becomeLike 134 = .ok (.iconst 0, 1) := by decide +kernel
theorem dX2_becomeLike_135 : decode cX2_becomeLike 135 = .ok (.istore_n 2, 1) := by decide +kernel
theorem dX2_becomeLike_136 : decode cX2_becomeLike 136 = .ok (.iload_n 2, 1) := by decide +kernel
theorem dX2_becomeLike_137 : decode cX2_becomeLike 137 = .ok (.iconst 4, 1) := by decide +kernel
theorem dX2_becomeLike_138 : decode cX2_becomeLike 138 = .ok (.if_icmp .ge 46, 3) := by decide +kernel
theorem dX2_becomeLike_141 : decode cX2_becomeLike 141 = .ok (.aload_n 1, 1) := by decide +kernel
theorem dX2_becomeLike_142 : decode cX2_becomeLike 142 = .ok (.getfield 27, 3) := by decide +kernel
theorem dX2_becomeLike_145 : decode cX2_becomeLike 145 = .ok (.iload_n 2, 1) := by decide +kernel
theorem dX2_becomeLike_146 : decode cX2_becomeLike 146 = .ok (.aaload, 1) := by decide +kernel
theorem dX2_becomeLike_147 : decode cX2_becomeLike 147 = .ok (.iconst 0, 1) := by decide +kernel
theorem dX2_becomeLike_148 : decode cX2_becomeLike 148 = .ok (.aload_n 0, 1) := by decide +kernel
theorem dX2_becomeLike_149 : decode cX2_becomeLike 149 = .ok (.getfield 27, 3) := by decide +kernel
theorem dX2_becomeLike_152 : decode cX2_becomeLike 152 = .ok (.iload_n 2, 1) := by decide +kernel
theorem dX2_becomeLike_153 : decode cX2_becomeLike 153 = .ok (.aaload, 1) := by decide +kernel
theorem dX2_becomeLike_154 : decode cX2_becomeLike 154 = .ok (.iconst 0, 1) := by decide +kernel
theorem dX2_becomeLike_155 : decode cX2_becomeLike 155 = .ok (.iconst 4, 1) := by decide +kernel
theorem dX2_becomeLike_156 : decode cX2_becomeLike 156 = .ok (.invokestatic 53, 3) := by decide +kernel
theorem dX2_becomeLike_159 : decode cX2_becomeLike 159 = .ok (.aload_n 1, 1) := by decide +kernel
theorem dX2_becomeLike_160 : decode cX2_becomeLike 160 = .ok (.getfield 30, 3) := by decide +kernel
theorem dX2_becomeLike_163 : decode cX2_becomeLike 163 = .ok (.iload_n 2, 1) := by decide +kernel
theorem dX2_becomeLike_164 : decode cX2_becomeLike 164 = .ok (.aaload, 1) := by decide +kernel
theorem dX2_becomeLike_165 : decode cX2_becomeLike 165 = .ok (.iconst 0, 1) := by decide +kernel
theorem dX2_becomeLike_166 : decode cX2_becomeLike 166 = .ok (.aload_n 0, 1) := by decide +kernel
theorem dX2_becomeLike_167 : decode cX2_becomeLike 167 = .ok (.getfield 30, 3) := by decide +kernel
theorem dX2_becomeLike_170 : decode cX2_becomeLike 170 = .ok (.iload_n 2, 1) := by decide +kernel
theorem dX2_becomeLike_171 : decode cX2_becomeLike 171 = .ok (.aaload, 1) := by decide +kernel
theorem dX2_becomeLike_172 : decode cX2_becomeLike 172 = .ok (.iconst 0, 1) := by decide +kernel
theorem dX2_becomeLike_173 : decode cX2_becomeLike 173 = .ok (.bipush 8, 2) := by decide +kernel
theorem dX2_becomeLike_175 : decode cX2_becomeLike 175 = .ok (.invokestatic 53, 3) := by decide +kernel
theorem dX2_becomeLike_178 : decode cX2_becomeLike 178 = .ok (.iinc 2 1, 3) := by decide +kernel
theorem dX2_becomeLike_181 : decode cX2_becomeLike 181 = .ok (.goto (-45), 3) := by decide +kernel
theorem dX2_becomeLike_184 : decode cX2_becomeLike 184 = .ok (.return_, 1) := by decide +kernel
theorem dX3_init_0 : decode cX3_init 0 = .ok (.aload_n 0, 1) := by decide +kernel
theorem dX3_init_1 : decode cX3_init 1 = .ok (.invokespecial 3, 3) := by decide +kernel
theorem dX3_init_4 : decode cX3_init 4 = .ok (.aload_n 0, 1) := by decide +kernel
theorem dX3_init_5 : decode cX3_init 5 = .ok (.iconst 4, 1) := by decide +kernel
theorem dX3_init_6 : decode cX3_init 6 = .ok (.bipush 9, 2) := by decide +kernel
theorem dX3_init_8 : decode cX3_init 8 = .ok (.multianewarray 9 2, 4) := by decide +kernel
theorem dX3_init_12 : decode cX3_init 12 = .ok (.putfield 11, 3) := by decide +kernel
theorem dX3_init_15 : decode cX3_init 15 = .ok (.aload_n 0, 1) := by decide +kernel
theorem dX3_init_16 : decode cX3_init 16 = .ok (.iconst 4, 1) := by decide +kernel
theorem dX3_init_17 : decode cX3_init 17 = .ok (.newarray .int, 2) := by decide +kernel
theorem dX3_init_19 : decode cX3_init 19 = .ok (.putfield 16, 3) := by decide +kernel
theorem dX3_init_22 : decode cX3_init 22 = .ok (.aload_n 0, 1) := by decide +kernel
theorem dX3_init_23 : decode cX3_init 23 = .ok (.bipush 9, 2) := by decide +kernel
theorem dX3_init_25 : decode cX3_init 25 = .ok (.newarray .int, 2) := by decide +kernel
theorem dX3_init_27 : decode cX3_init 27 = .ok (.putfield 20, 3) := by decide +kernel
theorem dX3_init_30 : decode cX3_init 30 = .ok (.aload_n 0, 1) := by decide +kernel
theorem dX3_init_31 : decode cX3_init 31 = .ok (.iconst 3, 1) := by decide +kernel
theorem dX3_init_32 : decode cX3_init 32 = .ok (.newarray .int, 2) := by decide +kernel
theorem dX3_init_34 : decode cX3_init 34 = .ok (.putfield 23, 3) := by decide +kernel
theorem dX3_init_37 : decode cX3_init 37 = .ok (.aload_n 0, 1) := by decide +kernel
theorem dX3_init_38 : decode cX3_init 38 = .ok (.iconst 3, 1) := by decide +kernel
theorem dX3_init_39 : decode cX3_init 39 = .ok (.newarray .int, 2) := by decide +kernel
theorem dX3_init_41 : decode cX3_init 41 = .ok (.putfield 26, 3) := by decide +kernel
theorem dX3_init_44 : decode cX3_init 44 = .ok (.return_, 1) := by decide +kernel
theorem dX3_run_0 : decode cX3_run 0 = .ok (.aload_n 0, 1) := by decide +kernel
theorem dX3_run_1 : decode cX3_run 1 = .ok (.iconst 0, 1) := by decide +kernel
theorem dX3_run_2 : decode cX3_run 2 = .ok (.putfield 29, 3) := by decide +kernel
theorem dX3_run_5 : decode cX3_run 5 = .ok (.aload_n 0, 1) := by decide +kernel
theorem dX3_run_6 : decode cX3_run 6 = .ok (.aload_n 1, 1) := by decide +kernel
theorem dX3_run_7 : decode cX3_run 7 = .ok (.getfield 33, 3) := by decide +kernel
theorem dX3_run_10 : decode cX3_run 10 = .ok (.iload_n 2, 1) := by decide +kernel
theorem dX3_run_11 : decode cX3_run 11 = .ok (.iaload, 1) := by decide +kernel
theorem dX3_run_12 : decode cX3_run 12 = .ok (.putfield 38, 3) := by decide +kernel
theorem dX3_run_15 : decode cX3_run 15 = .ok (.aload_n 0, 1) := by decide +kernel
theorem dX3_run_16 : decode cX3_run 16 = .ok (.getfield 38, 3) := by decide +kernel
theorem dX3_run_19 : decode cX3_run 19 = .ok (.iload 5, 2) := by decide +kernel
theorem dX3_run_21 : decode cX3_run 21 = .ok (.if_icmp .eq 4, 3) := by decide +kernel
theorem dX3_run_24 : decode cX3_run 24 = .ok (.return_, 1) := by decide +kernel
theorem dX3_run_25 : decode cX3_run 25 = .ok (.aload_n 0, 1) := by decide +kernel
theorem dX3_run_26 : decode cX3_run 26 = .ok (.aload_n 1, 1) := by decide +kernel
theorem dX3_run_27 : decode cX3_run 27 = .ok (.getfield 41, 3) := by decide +kernel
theorem dX3_run_30 : decode cX3_run 30 = .ok (.putfield 44, 3) := by decide +kernel
theorem dX3_run_33 : decode cX3_run 33 = .ok (.aload_n 0, 1) := by decide +kernel
theorem dX3_run_34 : decode cX3_run 34 = .ok (.iload_n 3, 1) := by decide +kernel
theorem dX3_run_35 : decode cX3_run 35 = .ok (.putfield 45, 3) := by decide +kernel
theorem dX3_run_38 : decode cX3_run 38 = .ok (.aload_n 1, 1) := by decide +kernel
theorem dX3_run_39 : decode cX3_run 39 = .ok (.getfield 48, 3) := by decide +kernel
theorem dX3_run_42 : decode cX3_run 42 = .ok (.iconst 0, 1) := by decide +kernel
theorem dX3_run_43 : decode cX3_run 43 = .ok (.aload_n 0, 1) := by decide +kernel
theorem dX3_run_44 : decode cX3_run 44 = .ok (.getfield 16, 3) := by decide +kernel
theorem dX3_run_47 : decode cX3_run 47 = .ok (.iconst 0, 1) := by decide +kernel
theorem dX3_run_48 : decode cX3_run 48 = .ok (.aload_n 0, 1) := by decide +kernel
theorem dX3_run_49 : decode cX3_run 49 = .ok (.getfield 44, 3) := by decide +kernel
theorem dX3_run_52 : decode cX3_run 52 = .ok (.invokestatic 49, 3) := by decide +kernel
theorem dX3_run_55 : decode cX3_run 55 = .ok (.aload 4, 2) := by decide +kernel
theorem dX3_run_57 : decode cX3_run 57 = .ok (.iconst 0, 1) := by decide +kernel
theorem dX3_run_58 : decode cX3_run 58 = .ok (.aload_n 0, 1) := by decide +kernel
theorem dX3_run_59 : decode cX3_run 59 = .ok (.getfield 20, 3) := by decide +kernel
theorem dX3_run_62 : decode cX3_run 62 = .ok (.iconst 0, 1) := by decide +kernel
theorem dX3_run_63 : decode cX3_run 63 = .ok (.iload 5, 2) := by decide +kernel
theorem dX3_run_65 : decode cX3_run 65 = .ok (.invokestatic 49, 3) := by decide +kernel
theorem dX3_run_68 : decode cX3_run 68 = .ok (.aload_n 1, 1) := by decide +kernel
theorem dX3_run_69 : decode cX3_run 69 = .ok (.getfield 55, 3) := by decide +kernel
theorem dX3_run_72 : decode cX3_run 72 = .ok (.iload_n 2, 1) := by decide +kernel
theorem dX3_run_73 : decode cX3_run 73 = .ok (.aaload, 1) := by decide +kernel
theorem dX3_run_74 : decode cX3_run 74 = .ok (.iconst 0, 1) := by decide +kernel
theorem dX3_run_75 : decode cX3_run 75 = .ok (.aload_n 0, 1) := by decide +kernel
theorem dX3_run_76 : decode cX3_run 76 = .ok (.getfield 11, 3) := by decide +kernel
theorem dX3_run_79 : decode cX3_run 79 = .ok (.iconst 0, 1) := by decide +kernel
theorem dX3_run_80 : decode cX3_run 80 = .ok (.aaload, 1) := by decide +kernel
theorem dX3_run_81 : decode cX3_run 81 = .ok (.iconst 0, 1) := by decide +kernel
theorem dX3_run_82 : decode cX3_run 82 = .ok (.iload 5, 2) := by decide +kernel
theorem dX3_run_84 : decode cX3_run 84 = .ok (.invokestatic 49, 3) := by decide +kernel
theorem dX3_run_87 : decode cX3_run 87 = .ok (.aload_n 0, 1) := by decide +kernel
theorem dX3_run_88 : decode cX3_run 88 = .ok (.iconst 0, 1) := by decide +kernel
theorem dX3_run_89 : decode cX3_run 89 = .ok (.invokevirtual 58, 3) := by decide +kernel
theorem dX3_run_92 : decode cX3_run 92 = .ok (.return_, 1) := by decide +kernel
theorem dX3_search_0 : decode cX3_search 0 = .ok (.iload_n 1, 1) := by decide +kernel
theorem dX3_search_1 : decode cX3_search 1 = .ok (.aload_n 0, 1) := by decide +kernel
theorem dX3_search_2 : decode cX3_search 2 = .ok (.getfield 45, 3) := by decide +kernel
theorem dX3_search_5 : decode cX3_search 5 = .ok (.if_icmp .lt 31, 3) := by decide +kernel
theorem dX3_search_8 : decode cX3_search 8 = .ok (.aload_n 0, 1) := by decide +kernel
theorem dX3_search_9 : decode cX3_search 9 = .ok (.getfield 11, 3) := by decide +kernel
theorem dX3_search_12 : decode cX3_search 12 = .ok (.aload_n 0, 1) := by decide +kernel
theorem dX3_search_13 : decode cX3_search 13 = .ok (.getfield 45, 3) := by decide +kernel
theorem dX3_search_16 : decode cX3_search 16 = .ok (.aaload, 1) := by decide +kernel
theorem dX3_search_17 : decode cX3_search 17 = .ok (.aload_n 0, 1) := by decide +kernel
theorem dX3_search_18 : decode cX3_search 18 = .ok (.getfield 20, 3) := by decide +kernel
theorem dX3_search_21 : decode cX3_search 21 = .ok (.aload_n 0, 1) := by decide +kernel
theorem dX3_search_22 : decode cX3_search 22 = .ok (.getfield 38, 3) := by decide +kernel
theorem dX3_search_25 : decode cX3_search 25 = .ok (.invokestatic 62, 3) := by decide +kernel
theorem dX3_search_28 : decode cX3_search 28 = .ok (.ifCond .eq 7, 3) := by decide +kernel
theorem dX3_search_31 : decode cX3_search 31 = .ok (.aload_n 0, 1) := by decide +kernel
theorem dX3_search_32 : decode cX3_search 32 = .ok (.invokevirtual 66, 3) := by decide +kernel
theorem dX3_search_35 : decode cX3_search 35 = .ok (.return_, 1) := by decide +kernel
theorem dX3_search_36 : decode cX3_search 36 = .ok (.iconst 0, 1) := by decide +kernel
theorem dX3_search_37 : decode cX3_search 37 = .ok (.istore_n 2, 1) := by decide +kernel
theorem dX3_search_38 : decode cX3_search 38 = .ok (.iload_n 2, 1) := by decide +kernel
theorem dX3_search_39 : decode cX3_search 39 = .ok (.aload_n 0, 1) := by decide +kernel
theorem dX3_search_40 : decode cX3_search 40 = .ok (.getfield 44, 3) := by decide +kernel
theorem dX3_search_43 : decode cX3_search 43 = .ok (.if_icmp .ge 50, 3) := by decide +kernel
theorem dX3_search_46 : decode cX3_search 46 = .ok (.aload_n 0, 1) := by decide +kernel
theorem dX3_search_47 : decode cX3_search 47 = .ok (.getfield 23, 3) := by decide +kernel
theorem dX3_search_50 : decode cX3_search 50 = .ok (.iload_n 1, 1) := by decide +kernel
theorem dX3_search_51 : decode cX3_search 51 = .ok (.iload_n 2, 1) := by decide +kernel
theorem dX3_search_52 : decode cX3_search 52 = .ok (.iastore, 1) := by decide +kernel
theorem dX3_search_53 : decode cX3_search 53 = .ok (.aload_n 0, 1) := by decide +kernel
theorem dX3_search_54 : decode cX3_search 54 = .ok (.getfield 16, 3) := by decide +kernel
theorem dX3_search_57 : decode cX3_search 57 = .ok (.iload_n 2, 1) := by decide +kernel
theorem dX3_search_58 : decode cX3_search 58 = .ok (.iaload, 1) := by decide +kernel
theorem dX3_search_59 : decode cX3_search 59 = .ok (.aload_n 0, 1) := by decide +kernel
theorem dX3_search_60 : decode cX3_search 60 = .ok (.getfield 11, 3) := by decide +kernel
theorem dX3_search_63 : decode cX3_search 63 = .ok (.iload_n 1, 1) := by decide +kernel
theorem dX3_search_64 : decode cX3_search 64 = .ok (.aaload, 1) := by decide +kernel
theorem dX3_search_65 : decode cX3_search 65 = .ok (.aload_n 0, 1) := by decide +kernel
theorem dX3_search_66 : decode cX3_search 66 = .ok (.getfield 11, 3) := by decide +kernel
theorem dX3_search_69 : decode cX3_search 69 = .ok (.iload_n 1, 1) := by decide +kernel
theorem dX3_search_70 : decode cX3_search 70 = .ok (.iconst 1, 1) := by decide +kernel
theorem dX3_search_71 : decode cX3_search 71 = .ok (.iadd, 1) := by decide +kernel
theorem dX3_search_72 : decode cX3_search 72 = .ok (.aaload, 1) := by decide +kernel
theorem dX3_search_73 : decode cX3_search 73 = .ok (.aload_n 0, 1) := by decide +kernel
theorem dX3_search_74 : decode cX3_search 74 = .ok (.getfield 38, 3) := by decide +kernel
theorem dX3_search_77 : decode cX3_search 77 = .ok (.invokestatic 69, 3) := by decide +kernel
theorem dX3_search_80 : decode cX3_search 80 = .ok (.aload_n 0, 1) := by decide +kernel
theorem dX3_search_81 : decode cX3_search 81 = .ok (.iload_n 1, 1) := by decide +kernel
theorem dX3_search_82 : decode cX3_search 82 = .ok (.iconst 1, 1) := by decide +kernel
theorem dX3_search_83 : decode cX3_search 83 = .ok (.iadd, 1) := by decide +kernel
theorem dX3_search_84 : decode cX3_search 84 = .ok (.invokevirtual 58, 3) := by decide +kernel
theorem dX3_search_87 : decode cX3_search 87 = .ok (.iinc 2 1, 3) := by decide +kernel
theorem dX3_search_90 : decode cX3_search 90 = .ok (.goto (-52), 3) := by decide +kernel
theorem dX3_search_93 : decode cX3_search 93 = .ok (.return_, 1) := by decide +kernel
theorem dX3_keepRow_0 : decode cX3_keepRow 0 = .ok (.aload_n 0, 1) := by decide +kernel
theorem dX3_keepRow_1 : decode cX3_keepRow 1 = .ok (.getfield 29, 3) := by decide +kernel
theorem dX3_keepRow_4 : decode cX3_keepRow 4 = .ok (.ifCond .ne 20, 3) := by decide +kernel
theorem dX3_keepRow_7 : decode cX3_keepRow 7 = .ok (.aload_n 0, 1) := by decide +kernel
theorem dX3_keepRow_8 : decode cX3_keepRow 8 = .ok (.getfield 23, 3) := by decide +kernel
theorem dX3_keepRow_11 : decode cX3_keepRow 11 = .ok (.iconst 0, 1) := by decide +kernel
theorem dX3_keepRow_12 : decode cX3_keepRow 12 = .ok (.aload_n 0, 1) := by decide +kernel
theorem dX3_keepRow_13 : decode cX3_keepRow 13 = .ok (.getfield 26, 3) := by decide +kernel
theorem dX3_keepRow_16 : decode cX3_keepRow 16 = .ok (.iconst 0, 1) := by decide +kernel
theorem dX3_keepRow_17 : decode cX3_keepRow 17 = .ok (.aload_n 0, 1) := by decide +kernel
theorem dX3_keepRow_18 : decode cX3_keepRow 18 = .ok (.getfield 45, 3) := by decide +kernel
theorem dX3_keepRow_21 : decode cX3_keepRow 21 = .ok (.invokestatic 49, 3) := by decide +kernel
theorem dX3_keepRow_24 : decode cX3_keepRow 24 = .ok (.aload_n 0, 1) := by decide +kernel
theorem dX3_keepRow_25 : decode cX3_keepRow 25 = .ok (.dup, 1) := by decide +kernel
theorem dX3_keepRow_26 : decode cX3_keepRow 26 = .ok (.getfield 29, 3) := by decide +kernel
theorem dX3_keepRow_29 : decode cX3_keepRow 29 = .ok (.iconst 1, 1) := by decide +kernel
theorem dX3_keepRow_30 : decode cX3_keepRow 30 = .ok (.iadd, 1) := by decide +kernel
theorem dX3_keepRow_31 : decode cX3_keepRow 31 = .ok (.putfield 29, 3) := by decide +kernel
theorem dX3_keepRow_34 : decode cX3_keepRow 34 = .ok (.return_, 1) := by decide +kernel
theorem dX4_init_0 : decode cX4_init 0 = .ok (.aload_n 0, 1) := by decide +kernel
theorem dX4_init_1 : decode cX4_init 1 = .ok (.invokespecial 3, 3) := by decide +kernel
theorem dX4_init_4 : decode cX4_init 4 = .ok (.aload_n 0, 1) := by decide +kernel
theorem dX4_init_5 : decode cX4_init 5 = .ok (.sipush 256, 3) := by decide +kernel
theorem dX4_init_8 : decode cX4_init 8 = .ok (.newarray .int, 2) := by decide +kernel
theorem dX4_init_10 : decode cX4_init 10 = .ok (.putfield 9, 3) := by decide +kernel
theorem dX4_init_13 : decode cX4_init 13 = .ok (.aload_n 0, 1) := by decide +kernel
theorem dX4_init_14 : decode cX4_init 14 = .ok (.bipush 8, 2) := by decide +kernel
theorem dX4_init_16 : decode cX4_init 16 = .ok (.newarray .int, 2) := by decide +kernel
theorem dX4_init_18 : decode cX4_init 18 = .ok (.putfield 15, 3) := by decide +kernel
theorem dX4_init_21 : decode cX4_init 21 = .ok (.return_, 1) := by decide +kernel
theorem dX4_run_0 : decode cX4_run 0 = .ok (.iconst 1, 1) := by decide +kernel
theorem dX4_run_1 : decode cX4_run 1 = .ok (.aload_n 1, 1) := by decide +kernel
theorem dX4_run_2 : decode cX4_run 2 = .ok (.getfield 18, 3) := by decide +kernel
theorem dX4_run_5 : decode cX4_run 5 = .ok (.ishl, 1) := by decide +kernel
theorem dX4_run_6 : decode cX4_run 6 = .ok (.iconst 1, 1) := by decide +kernel
theorem dX4_run_7 : decode cX4_run 7 = .ok (.isub, 1) := by decide +kernel
theorem dX4_run_8 : decode cX4_run 8 = .ok (.istore 4, 2) := by decide +kernel
theorem dX4_run_10 : decode cX4_run 10 = .ok (.iload 4, 2) := by decide +kernel
theorem dX4_run_12 : decode cX4_run 12 = .ok (.ifCond .lt 45, 3) := by decide +kernel
theorem dX4_run_15 : decode cX4_run 15 = .ok (.aload_n 1, 1) := by decide +kernel
theorem dX4_run_16 : decode cX4_run 16 = .ok (.iload 4, 2) := by decide +kernel
theorem dX4_run_18 : decode cX4_run 18 = .ok (.invokestatic 24, 3) := by decide +kernel
theorem dX4_run_21 : decode cX4_run 21 = .ok (.istore 5, 2) := by decide +kernel
theorem dX4_run_23 : decode cX4_run 23 = .ok (.aload_n 0, 1) := by decide +kernel
theorem dX4_run_24 : decode cX4_run 24 = .ok (.getfield 9, 3) := by decide +kernel
theorem dX4_run_27 : decode cX4_run 27 = .ok (.iload 4, 2) := by decide +kernel
theorem dX4_run_29 : decode cX4_run 29 = .ok (.iload 5, 2) := by decide +kernel
theorem dX4_run_31 : decode cX4_run 31 = .ok (.iload_n 3, 1) := by decide +kernel
theorem dX4_run_32 : decode cX4_run 32 = .ok (.if_icmp .ne 7, 3) := by decide +kernel
theorem dX4_run_35 : decode cX4_run 35 = .ok (.iconst 1, 1) := by decide +kernel
theorem dX4_run_36 : decode cX4_run 36 = .ok (.goto 14, 3) := by decide +kernel
theorem dX4_run_39 : decode cX4_run 39 = .ok (.aload_n 0, 1) := by decide +kernel
theorem dX4_run_40 : decode cX4_run 40 = .ok (.aload_n 1, 1) := by decide +kernel
theorem dX4_run_41 : decode cX4_run 41 = .ok (.aload_n 2, 1) := by decide +kernel
theorem dX4_run_42 : decode cX4_run 42 = .ok (.iload_n 3, 1) := by decide +kernel
theorem dX4_run_43 : decode cX4_run 43 = .ok (.iload 4, 2) := by decide +kernel
theorem dX4_run_45 : decode cX4_run 45 = .ok (.iload 5, 2) := by decide +kernel
theorem dX4_run_47 : decode cX4_run 47 = .ok (.invokevirtual 28, 3) := by decide +kernel
theorem dX4_run_50 : decode cX4_run 50 = .ok (.iastore, 1) := by decide +kernel
theorem dX4_run_51 : decode cX4_run 51 = .ok (.iinc 4 (-1), 3) := by decide +kernel
theorem dX4_run_54 : decode cX4_run 54 = .ok (.goto (-44), 3) := by decide +kernel
theorem dX4_run_57 : decode cX4_run 57 = .ok (.aload_n 0, 1) := by decide +kernel
theorem dX4_run_58 : decode cX4_run 58 = .ok (.aload_n 0, 1) := by decide +kernel
theorem dX4_run_59 : decode cX4_run 59 = .ok (.getfield 9, 3) := by decide +kernel
theorem dX4_run_62 : decode cX4_run 62 = .ok (.iconst 0, 1) := by decide +kernel
theorem dX4_run_63 : decode cX4_run 63 = .ok (.iaload, 1) := by decide +kernel
theorem dX4_run_64 : decode cX4_run 64 = .ok (.putfield 32, 3) := by decide +kernel
theorem dX4_run_67 : decode cX4_run 67 = .ok (.aload_n 0, 1) := by decide +kernel
theorem dX4_run_68 : decode cX4_run 68 = .ok (.iconst 0, 1) := by decide +kernel
theorem dX4_run_69 : decode cX4_run 69 = .ok (.putfield 35, 3) := by decide +kernel
theorem dX4_run_72 : decode cX4_run 72 = .ok (.aload_n 0, 1) := by decide +kernel
theorem dX4_run_73 : decode cX4_run 73 = .ok (.getfield 32, 3) := by decide +kernel
theorem dX4_run_76 : decode cX4_run 76 = .ok (.ifCond .le 10, 3) := by decide +kernel
theorem dX4_run_79 : decode cX4_run 79 = .ok (.aload_n 0, 1) := by decide +kernel
theorem dX4_run_80 : decode cX4_run 80 = .ok (.aload_n 1, 1) := by decide +kernel
theorem dX4_run_81 : decode cX4_run 81 = .ok (.aload_n 2, 1) := by decide +kernel
theorem dX4_run_82 : decode cX4_run 82 = .ok (.iload_n 3, 1) := by decide +kernel
theorem dX4_run_83 : decode cX4_run 83 = .ok (.invokevirtual 38, 3) := by decide +kernel
theorem dX4_run_86 : decode cX4_run 86 = .ok (.return_, 1) := by decide +kernel
theorem dX4_sentencesOf_0 : decode cX4_sentencesOf 0 = .ok (.iconst 0, 1) := by decide +kernel
theorem dX4_sentencesOf_1 : decode cX4_sentencesOf 1 = .ok (.istore_n 2, 1) := by decide +kernel
theorem dX4_sentencesOf_2 : decode cX4_sentencesOf 2 = .ok (.iconst 0, 1) := by decide +kernel
theorem dX4_sentencesOf_3 : decode cX4_sentencesOf 3 = .ok (.istore_n 3, 1) := by decide +kernel
theorem dX4_sentencesOf_4 : decode cX4_sentencesOf 4 = .ok (.iload_n 3, 1) := by decide +kernel
theorem dX4_sentencesOf_5 : decode cX4_sentencesOf 5 = .ok (.aload_n 0, 1) := by decide +kernel
theorem dX4_sentencesOf_6 : decode cX4_sentencesOf 6 = .ok (.getfield 18, 3) := by decide +kernel
theorem dX4_sentencesOf_9 : decode cX4_sentencesOf 9 = .ok (.if_icmp .ge 26, 3) := by decide +kernel
theorem dX4_sentencesOf_12 : decode cX4_sentencesOf 12 = .ok (.iload_n 1, 1) := by decide +kernel
theorem dX4_sentencesOf_13 : decode cX4_sentencesOf 13 = .ok (.iload_n 3, 1) := by decide +kernel
theorem dX4_sentencesOf_14 : decode cX4_sentencesOf 14 = .ok (.ishr, 1) := by decide +kernel
theorem dX4_sentencesOf_15 : decode cX4_sentencesOf 15 = .ok (.iconst 1, 1) := by decide +kernel
theorem dX4_sentencesOf_16 : decode cX4_sentencesOf 16 = .ok (.iand, 1) := by decide +kernel
theorem dX4_sentencesOf_17 : decode cX4_sentencesOf 17 = .ok (.ifCond .eq 12, 3) := by decide +kernel
theorem dX4_sentencesOf_20 : decode cX4_sentencesOf 20 = .ok (.iload_n 2, 1) := by decide +kernel
theorem dX4_sentencesOf_21 : decode cX4_sentencesOf 21 = .ok (.aload_n 0, 1) := by decide +kernel
theorem dX4_sentencesOf_22 : decode cX4_sentencesOf 22 = .ok (.getfield 42, 3) := by decide +kernel
theorem dX4_sentencesOf_25 : decode cX4_sentencesOf 25 = .ok (.iload_n 3, 1) := by decide +kernel
theorem dX4_sentencesOf_26 : decode cX4_sentencesOf 26 = .ok (.iaload, 1) := by decide +kernel
theorem dX4_sentencesOf_27 : decode cX4_sentencesOf 27 = .ok (.iadd, 1) := by decide +kernel
theorem dX4_sentencesOf_28 : decode cX4_sentencesOf 28 = .ok (.istore_n 2, 1) := by decide +kernel
theorem dX4_sentencesOf_29 : decode cX4_sentencesOf 29 = .ok (.iinc 3 1, 3) := by decide +kernel
theorem dX4_sentencesOf_32 : decode cX4_sentencesOf 32 = .ok (.goto (-28), 3) := by decide +kernel
theorem dX4_sentencesOf_35 : decode cX4_sentencesOf 35 = .ok (.iload_n 2, 1) := by decide +kernel
theorem dX4_sentencesOf_36 : decode cX4_sentencesOf 36 = .ok (.ireturn, 1) := by decide +kernel
theorem dX4_waysOn_0 : decode cX4_waysOn 0 = .ok (.iconst 0, 1) := by decide +kernel
theorem dX4_waysOn_1 : decode cX4_waysOn 1 = .ok (.istore 6, 2) := by decide +kernel
theorem dX4_waysOn_3 : decode cX4_waysOn 3 = .ok (.iconst 0, 1) := by decide +kernel
theorem dX4_waysOn_4 : decode cX4_waysOn 4 = .ok (.istore 7, 2) := by decide +kernel
theorem dX4_waysOn_6 : decode cX4_waysOn 6 = .ok (.iload 7, 2) := by decide +kernel
theorem dX4_waysOn_8 : decode cX4_waysOn 8 = .ok (.aload_n 1, 1) := by decide +kernel
theorem dX4_waysOn_9 : decode cX4_waysOn 9 = .ok (.getfield 18, 3) := by decide +kernel
theorem dX4_waysOn_12 : decode cX4_waysOn 12 = .ok (.if_icmp .ge 49, 3) := by decide +kernel
theorem dX4_waysOn_15 : decode cX4_waysOn 15 = .ok (.iload 4, 2) := by decide +kernel
theorem dX4_waysOn_17 : decode cX4_waysOn 17 = .ok (.iload 7, 2) := by decide +kernel
theorem dX4_waysOn_19 : decode cX4_waysOn 19 = .ok (.ishr, 1) := by decide +kernel
theorem dX4_waysOn_20 : decode cX4_waysOn 20 = .ok (.iconst 1, 1) := by decide +kernel
theorem dX4_waysOn_21 : decode cX4_waysOn 21 = .ok (.iand, 1) := by decide +kernel
theorem dX4_waysOn_22 : decode cX4_waysOn 22 = .ok (.ifCond .ne 33, 3) := by decide +kernel
theorem dX4_waysOn_25 : decode cX4_waysOn 25 = .ok (.aload_n 1, 1) := by decide +kernel
theorem dX4_waysOn_26 : decode cX4_waysOn 26 = .ok (.iload 7, 2) := by decide +kernel
theorem dX4_waysOn_28 : decode cX4_waysOn 28 = .ok (.aload_n 2, 1) := by decide +kernel
theorem dX4_waysOn_29 : decode cX4_waysOn 29 = .ok (.iload_n 3, 1) := by decide +kernel
theorem dX4_waysOn_30 : decode cX4_waysOn 30 = .ok (.iload 5, 2) := by decide +kernel
theorem dX4_waysOn_32 : decode cX4_waysOn 32 = .ok (.invokestatic 45, 3) := by decide +kernel
theorem dX4_waysOn_35 : decode cX4_waysOn 35 = .ok (.ifCond .eq 20, 3) := by decide +kernel
theorem dX4_waysOn_38 : decode cX4_waysOn 38 = .ok (.iload 6, 2) := by decide +kernel
theorem dX4_waysOn_40 : decode cX4_waysOn 40 = .ok (.aload_n 0, 1) := by decide +kernel
theorem dX4_waysOn_41 : decode cX4_waysOn 41 = .ok (.getfield 9, 3) := by decide +kernel
theorem dX4_waysOn_44 : decode cX4_waysOn 44 = .ok (.iload 4, 2) := by decide +kernel
theorem dX4_waysOn_46 : decode cX4_waysOn 46 = .ok (.iconst 1, 1) := by decide +kernel
theorem dX4_waysOn_47 : decode cX4_waysOn 47 = .ok (.iload 7, 2) := by decide +kernel
theorem dX4_waysOn_49 : decode cX4_waysOn 49 = .ok (.ishl, 1) := by decide +kernel
theorem dX4_waysOn_50 : decode cX4_waysOn 50 = .ok (.ior, 1) := by decide +kernel
theorem dX4_waysOn_51 : decode cX4_waysOn 51 = .ok (.iaload, 1) := by decide +kernel
theorem dX4_waysOn_52 : decode cX4_waysOn 52 = .ok (.iadd, 1) := by decide +kernel
theorem dX4_waysOn_53 : decode cX4_waysOn 53 = .ok (.istore 6, 2) := by decide +kernel
theorem dX4_waysOn_55 : decode cX4_waysOn 55 = .ok (.iinc 7 1, 3) := by decide +kernel
theorem dX4_waysOn_58 : decode cX4_waysOn 58 = .ok (.goto (-52), 3) := by decide +kernel
theorem dX4_waysOn_61 : decode cX4_waysOn 61 = .ok (.iload 6, 2) := by decide +kernel
theorem dX4_waysOn_63 : decode cX4_waysOn 63 = .ok (.ireturn, 1) := by decide +kernel
theorem dX4_fits_0 : decode cX4_fits 0 = .ok (.aload_n 0, 1) := by decide +kernel
theorem dX4_fits_1 : decode cX4_fits 1 = .ok (.getfield 42, 3) := by decide +kernel
theorem dX4_fits_4 : decode cX4_fits 4 = .ok (.iload_n 1, 1) := by decide +kernel
theorem dX4_fits_5 : decode cX4_fits 5 = .ok (.iaload, 1) := by decide +kernel
theorem dX4_fits_6 : decode cX4_fits 6 = .ok (.istore 5, 2) := by decide +kernel
theorem dX4_fits_8 : decode cX4_fits 8 = .ok (.iload 4, 2) := by decide +kernel
theorem dX4_fits_10 : decode cX4_fits 10 = .ok (.iload 5, 2) := by decide +kernel
theorem dX4_fits_12 : decode cX4_fits 12 = .ok (.iadd, 1) := by decide +kernel
theorem dX4_fits_13 : decode cX4_fits 13 = .ok (.iload_n 3, 1) := by decide +kernel
theorem dX4_fits_14 : decode cX4_fits 14 = .ok (.if_icmp .le 5, 3) := by decide +kernel
theorem dX4_fits_17 : decode cX4_fits 17 = .ok (.iconst 0, 1) := by decide +kernel
theorem dX4_fits_18 : decode cX4_fits 18 = .ok (.ireturn, 1) := by decide +kernel
theorem dX4_fits_19 : decode cX4_fits 19 = .ok (.iconst 0, 1) := by decide +kernel
theorem dX4_fits_20 : decode cX4_fits 20 = .ok (.istore 6, 2) := by decide +kernel
theorem dX4_fits_22 : decode cX4_fits 22 = .ok (.iload 6, 2) := by decide +kernel
theorem dX4_fits_24 : decode cX4_fits 24 = .ok (.iload 5, 2) := by decide +kernel
theorem dX4_fits_26 : decode cX4_fits 26 = .ok (.if_icmp .ge 33, 3) := by decide +kernel
theorem dX4_fits_29 : decode cX4_fits 29 = .ok (.aload_n 0, 1) := by decide +kernel
theorem dX4_fits_30 : decode cX4_fits 30 = .ok (.getfield 49, 3) := by decide +kernel
theorem dX4_fits_33 : decode cX4_fits 33 = .ok (.iload_n 1, 1) := by decide +kernel
theorem dX4_fits_34 : decode cX4_fits 34 = .ok (.aaload, 1) := by decide +kernel
theorem dX4_fits_35 : decode cX4_fits 35 = .ok (.iload 6, 2) := by decide +kernel
theorem dX4_fits_37 : decode cX4_fits 37 = .ok (.iaload, 1) := by decide +kernel
theorem dX4_fits_38 : decode cX4_fits 38 = .ok (.invokestatic 53, 3) := by decide +kernel
theorem dX4_fits_41 : decode cX4_fits 41 = .ok (.aload_n 2, 1) := by decide +kernel
theorem dX4_fits_42 : decode cX4_fits 42 = .ok (.iload 4, 2) := by decide +kernel
theorem dX4_fits_44 : decode cX4_fits 44 = .ok (.iload 6, 2) := by decide +kernel
theorem dX4_fits_46 : decode cX4_fits 46 = .ok (.iadd, 1) := by decide +kernel
theorem dX4_fits_47 : decode cX4_fits 47 = .ok (.iaload, 1) := by decide +kernel
theorem dX4_fits_48 : decode cX4_fits 48 = .ok (.if_icmp .eq 5, 3) := by decide +kernel
theorem dX4_fits_51 : decode cX4_fits 51 = .ok (.iconst 0, 1) := by decide +kernel
theorem dX4_fits_52 : decode cX4_fits 52 = .ok (.ireturn, 1) := by decide +kernel
theorem dX4_fits_53 : decode cX4_fits 53 = .ok (.iinc 6 1, 3) := by decide +kernel
theorem dX4_fits_56 : decode cX4_fits 56 = .ok (.goto (-34), 3) := by decide +kernel
theorem dX4_fits_59 : decode cX4_fits 59 = .ok (.iconst 1, 1) := by decide +kernel
theorem dX4_fits_60 : decode cX4_fits 60 = .ok (.ireturn, 1) := by decide +kernel
theorem dX4_followFirst_0 : decode cX4_followFirst 0 = .ok (.iconst 0, 1) := by decide +kernel
theorem dX4_followFirst_1 : decode cX4_followFirst 1 = .ok (.istore 4, 2) := by decide +kernel
theorem dX4_followFirst_3 : decode cX4_followFirst 3 = .ok (.iconst 0, 1) := by decide +kernel
theorem dX4_followFirst_4 : decode cX4_followFirst 4 = .ok (.istore 5, 2) := by decide +kernel
theorem dX4_followFirst_6 : decode cX4_followFirst 6 = .ok (.iload 5, 2) := by decide +kernel
theorem dX4_followFirst_8 : decode cX4_followFirst 8 = .ok (.iload_n 3, 1) := by decide +kernel
theorem dX4_followFirst_9 : decode cX4_followFirst 9 = .ok (.if_icmp .ge 74, 3) := by decide +kernel
theorem dX4_followFirst_12 : decode cX4_followFirst 12 = .ok (.aload_n 0, 1) := by decide +kernel
theorem dX4_followFirst_13 : decode cX4_followFirst 13 = .ok (.getfield 35, 3) := by decide +kernel
theorem dX4_followFirst_16 : decode cX4_followFirst 16 = .ok (.bipush 8, 2) := by decide +kernel
theorem dX4_followFirst_18 : decode cX4_followFirst 18 = .ok (.if_icmp .ge 65, 3) := by decide +kernel
theorem dX4_followFirst_21 : decode cX4_followFirst 21 = .ok (.aload_n 0, 1) := by decide +kernel
theorem dX4_followFirst_22 : decode cX4_followFirst 22 = .ok (.aload_n 1, 1) := by decide +kernel
theorem dX4_followFirst_23 : decode cX4_followFirst 23 = .ok (.aload_n 2, 1) := by decide +kernel
theorem dX4_followFirst_24 : decode cX4_followFirst 24 = .ok (.iload_n 3, 1) := by decide +kernel
theorem dX4_followFirst_25 : decode cX4_followFirst 25 = .ok (.iload 4, 2) := by decide +kernel
theorem dX4_followFirst_27 : decode cX4_followFirst 27 = .ok (.iload 5, 2) := by decide +kernel
theorem dX4_followFirst_29 : decode cX4_followFirst 29 = .ok (.invokevirtual 57, 3) := by decide +kernel
theorem dX4_followFirst_32 : decode cX4_followFirst 32 = .ok (.istore 6, 2) := by decide +kernel
theorem dX4_followFirst_34 : decode cX4_followFirst 34 = .ok (.iload 6, 2) := by decide +kernel
theorem dX4_followFirst_36 : decode cX4_followFirst 36 = .ok (.iconst (-1), 1) := by decide +kernel
theorem dX4_followFirst_37 : decode cX4_followFirst 37 = .ok (.if_icmp .ne 4, 3) := by decide +kernel
theorem dX4_followFirst_40 : decode cX4_followFirst 40 = .ok (.return_, 1) := by decide +kernel
theorem dX4_followFirst_41 : decode cX4_followFirst 41 = .ok (.aload_n 0, 1) := by decide +kernel
theorem dX4_followFirst_42 : decode cX4_followFirst 42 = .ok (.getfield 15, 3) := by decide +kernel
theorem dX4_followFirst_45 : decode cX4_followFirst 45 = .ok (.aload_n 0, 1) := by decide +kernel
theorem dX4_followFirst_46 : decode cX4_followFirst 46 = .ok (.dup, 1) := by decide +kernel
theorem dX4_followFirst_47 : decode cX4_followFirst 47 = .ok (.getfield 35, 3) := by decide +kernel
theorem dX4_followFirst_50 : decode cX4_followFirst 50 = .ok (.dup_x1, 1) := by decide +kernel
theorem dX4_followFirst_51 : decode cX4_followFirst 51 = .ok (.iconst 1, 1) := by decide +kernel
theorem dX4_followFirst_52 : decode cX4_followFirst 52 = .ok (.iadd, 1) := by decide +kernel
theorem dX4_followFirst_53 : decode cX4_followFirst 53 = .ok (.putfield 35, 3) := by decide +kernel
theorem dX4_followFirst_56 : decode cX4_followFirst 56 = .ok (.iload 6, 2) := by decide +kernel
theorem dX4_followFirst_58 : decode cX4_followFirst 58 = .ok (.iastore, 1) := by decide +kernel
theorem dX4_followFirst_59 : decode cX4_followFirst 59 = .ok (.iload 4, 2) := by decide +kernel
theorem dX4_followFirst_61 : decode cX4_followFirst 61 = .ok (.iconst 1, 1) := by decide +kernel
theorem dX4_followFirst_62 : decode cX4_followFirst 62 = .ok (.iload 6, 2) := by decide +kernel
theorem dX4_followFirst_64 : decode cX4_followFirst 64 = .ok (.ishl, 1) := by decide +kernel
theorem dX4_followFirst_65 : decode cX4_followFirst 65 = .ok (.ior, 1) := by decide +kernel
theorem dX4_followFirst_66 : decode cX4_followFirst 66 = .ok (.istore 4, 2) := by decide +kernel
theorem dX4_followFirst_68 : decode cX4_followFirst 68 = .ok (.iload 5, 2) := by decide +kernel
theorem dX4_followFirst_70 : decode cX4_followFirst 70 = .ok (.aload_n 1, 1) := by decide +kernel
theorem dX4_followFirst_71 : decode cX4_followFirst 71 = .ok (.getfield 42, 3) := by decide +kernel
theorem dX4_followFirst_74 : decode cX4_followFirst 74 = .ok (.iload 6, 2) := by decide +kernel
theorem dX4_followFirst_76 : decode cX4_followFirst 76 = .ok (.iaload, 1) := by decide +kernel
theorem dX4_followFirst_77 : decode cX4_followFirst 77 = .ok (.iadd, 1) := by decide +kernel
theorem dX4_followFirst_78 : decode cX4_followFirst 78 = .ok (.istore 5, 2) := by decide +kernel
theorem dX4_followFirst_80 : decode cX4_followFirst 80 = .ok (.goto (-74), 3) := by decide +kernel
theorem dX4_followFirst_83 : decode cX4_followFirst 83 = .ok (.return_, 1) := by decide +kernel
theorem dX4_firstOn_0 : decode cX4_firstOn 0 = .ok (.iconst 0, 1) := by decide +kernel
theorem dX4_firstOn_1 : decode cX4_firstOn 1 = .ok (.istore 6, 2) := by decide +kernel
theorem dX4_firstOn_3 : decode cX4_firstOn 3 = .ok (.iload 6, 2) := by decide +kernel
theorem dX4_firstOn_5 : decode cX4_firstOn 5 = .ok (.aload_n 1, 1) := by decide +kernel
theorem dX4_firstOn_6 : decode cX4_firstOn 6 = .ok (.getfield 18, 3) := by decide +kernel
theorem dX4_firstOn_9 : decode cX4_firstOn 9 = .ok (.if_icmp .ge 50, 3) := by decide +kernel
theorem dX4_firstOn_12 : decode cX4_firstOn 12 = .ok (.iload 4, 2) := by decide +kernel
theorem dX4_firstOn_14 : decode cX4_firstOn 14 = .ok (.iload 6, 2) := by decide +kernel
theorem dX4_firstOn_16 : decode cX4_firstOn 16 = .ok (.ishr, 1) := by decide +kernel
theorem dX4_firstOn_17 : decode cX4_firstOn 17 = .ok (.iconst 1, 1) := by decide +kernel
theorem dX4_firstOn_18 : decode cX4_firstOn 18 = .ok (.iand, 1) := by decide +kernel
theorem dX4_firstOn_19 : decode cX4_firstOn 19 = .ok (.ifCond .ne 34, 3) := by decide +kernel
theorem dX4_firstOn_22 : decode cX4_firstOn 22 = .ok (.aload_n 1, 1) := by decide +kernel
theorem dX4_firstOn_23 : decode cX4_firstOn 23 = .ok (.iload 6, 2) := by decide +kernel
theorem dX4_firstOn_25 : decode cX4_firstOn 25 = .ok (.aload_n 2, 1) := by decide +kernel
theorem dX4_firstOn_26 : decode cX4_firstOn 26 = .ok (.iload_n 3, 1) := by decide +kernel
theorem dX4_firstOn_27 : decode cX4_firstOn 27 = .ok (.iload 5, 2) := by decide +kernel
theorem dX4_firstOn_29 : decode cX4_firstOn 29 = .ok (.invokestatic 45, 3) := by decide +kernel
theorem dX4_firstOn_32 : decode cX4_firstOn 32 = .ok (.ifCond .eq 21, 3) := by decide +kernel
theorem dX4_firstOn_35 : decode cX4_firstOn 35 = .ok (.aload_n 0, 1) := by decide +kernel
theorem dX4_firstOn_36 : decode cX4_firstOn 36 = .ok (.getfield 9, 3) := by decide +kernel
theorem dX4_firstOn_39 : decode cX4_firstOn 39 = .ok (.iload 4, 2) := by decide +kernel
theorem dX4_firstOn_41 : decode cX4_firstOn 41 = .ok (.iconst 1, 1) := by decide +kernel
theorem dX4_firstOn_42 : decode cX4_firstOn 42 = .ok (.iload 6, 2) := by decide +kernel
theorem dX4_firstOn_44 : decode cX4_firstOn 44 = .ok (.ishl, 1) := by decide +kernel
theorem dX4_firstOn_45 : decode cX4_firstOn 45 = .ok (.ior, 1) := by decide +kernel
theorem dX4_firstOn_46 : decode cX4_firstOn 46 = .ok (.iaload, 1) := by decide +kernel
theorem dX4_firstOn_47 : decode cX4_firstOn 47 = .ok (.ifCond .le 6, 3) := by decide +kernel
theorem dX4_firstOn_50 : decode cX4_firstOn 50 = .ok (.iload 6, 2) := by decide +kernel
theorem dX4_firstOn_52 : decode cX4_firstOn 52 = .ok (.ireturn, 1) := by decide +kernel
theorem dX4_firstOn_53 : decode cX4_firstOn 53 = .ok (.iinc 6 1, 3) := by decide +kernel
theorem dX4_firstOn_56 : decode cX4_firstOn 56 = .ok (.goto (-53), 3) := by decide +kernel
theorem dX4_firstOn_59 : decode cX4_firstOn 59 = .ok (.iconst (-1), 1) := by decide +kernel
theorem dX4_firstOn_60 : decode cX4_firstOn 60 = .ok (.ireturn, 1) := by decide +kernel
theorem dX5_init_0 : decode cX5_init 0 = .ok (.aload_n 0, 1) := by decide +kernel
theorem dX5_init_1 : decode cX5_init 1 = .ok (.invokespecial 3, 3) := by decide +kernel
theorem dX5_init_4 : decode cX5_init 4 = .ok (.aload_n 0, 1) := by decide +kernel
theorem dX5_init_5 : decode cX5_init 5 = .ok (.iconst (-1), 1) := by decide +kernel
theorem dX5_init_6 : decode cX5_init 6 = .ok (.putfield 9, 3) := by decide +kernel
theorem dX5_init_9 : decode cX5_init 9 = .ok (.aload_n 0, 1) := by decide +kernel
theorem dX5_init_10 : decode cX5_init 10 = .ok (.bipush 24, 2) := by decide +kernel
theorem dX5_init_12 : decode cX5_init 12 = .ok (.newarray .int, 2) := by decide +kernel
theorem dX5_init_14 : decode cX5_init 14 = .ok (.putfield 15, 3) := by decide +kernel
theorem dX5_init_17 : decode cX5_init 17 = .ok (.return_, 1) := by decide +kernel
theorem dX5_begin_0 : decode cX5_begin 0 = .ok (.aload_n 0, 1) := by decide +kernel
theorem dX5_begin_1 : decode cX5_begin 1 = .ok (.iload_n 1, 1) := by decide +kernel
theorem dX5_begin_2 : decode cX5_begin 2 = .ok (.putfield 9, 3) := by decide +kernel
theorem dX5_begin_5 : decode cX5_begin 5 = .ok (.aload_n 0, 1) := by decide +kernel
theorem dX5_begin_6 : decode cX5_begin 6 = .ok (.iload_n 2, 1) := by decide +kernel
theorem dX5_begin_7 : decode cX5_begin 7 = .ok (.putfield 19, 3) := by decide +kernel
theorem dX5_begin_10 : decode cX5_begin 10 = .ok (.iconst 0, 1) := by decide +kernel
theorem dX5_begin_11 : decode cX5_begin 11 = .ok (.istore_n 3, 1) := by decide +kernel
theorem dX5_begin_12 : decode cX5_begin 12 = .ok (.iload_n 3, 1) := by decide +kernel
theorem dX5_begin_13 : decode cX5_begin 13 = .ok (.bipush 24, 2) := by decide +kernel
theorem dX5_begin_15 : decode cX5_begin 15 = .ok (.if_icmp .ge 16, 3) := by decide +kernel
theorem dX5_begin_18 : decode cX5_begin 18 = .ok (.aload_n 0, 1) := by decide +kernel
theorem dX5_begin_19 : decode cX5_begin 19 = .ok (.getfield 15, 3) := by decide +kernel
theorem dX5_begin_22 : decode cX5_begin 22 = .ok (.iload_n 3, 1) := by decide +kernel
theorem dX5_begin_23 : decode cX5_begin 23 = .ok (.iconst 0, 1) := by decide +kernel
theorem dX5_begin_24 : decode cX5_begin 24 = .ok (.iastore, 1) := by decide +kernel
theorem dX5_begin_25 : decode cX5_begin 25 = .ok (.iinc 3 1, 3) := by decide +kernel
theorem dX5_begin_28 : decode cX5_begin 28 = .ok (.goto (-16), 3) := by decide +kernel
theorem dX5_begin_31 : decode cX5_begin 31 = .ok (.return_, 1) := by decide +kernel
theorem dX5_hasItems_0 : decode cX5_hasItems 0 = .ok (.iload_n 1, 1) := by decide +kernel
theorem dX5_hasItems_1 : decode cX5_hasItems 1 = .ok (.ifCond .lt 21, 3) := by decide +kernel
theorem dX5_hasItems_4 : decode cX5_hasItems 4 = .ok (.iload_n 2, 1) := by decide +kernel
theorem dX5_hasItems_5 : decode cX5_hasItems 5 = .ok (.ifCond .lt 17, 3) := by decide +kernel
theorem dX5_hasItems_8 : decode cX5_hasItems 8 = .ok (.iload_n 1, 1) := by decide +kernel
theorem dX5_hasItems_9 : decode cX5_hasItems 9 = .ok (.aload_n 0, 1) := by decide +kernel
theorem dX5_hasItems_10 : decode cX5_hasItems 10 = .ok (.getfield 19, 3) := by decide +kernel
theorem dX5_hasItems_13 : decode cX5_hasItems 13 = .ok (.iload_n 2, 1) := by decide +kernel
theorem dX5_hasItems_14 : decode cX5_hasItems 14 = .ok (.isub, 1) := by decide +kernel
theorem dX5_hasItems_15 : decode cX5_hasItems 15 = .ok (.if_icmp .gt 7, 3) := by decide +kernel
theorem dX5_hasItems_18 : decode cX5_hasItems 18 = .ok (.iconst 1, 1) := by decide +kernel
theorem dX5_hasItems_19 : decode cX5_hasItems 19 = .ok (.goto 4, 3) := by decide +kernel
theorem dX5_hasItems_22 : decode cX5_hasItems 22 = .ok (.iconst 0, 1) := by decide +kernel
theorem dX5_hasItems_23 : decode cX5_hasItems 23 = .ok (.ireturn, 1) := by decide +kernel
theorem dX5_refusal_0 : decode cX5_refusal 0 = .ok (.aload_n 0, 1) := by decide +kernel
theorem dX5_refusal_1 : decode cX5_refusal 1 = .ok (.getfield 9, 3) := by decide +kernel
theorem dX5_refusal_4 : decode cX5_refusal 4 = .ok (.iconst (-1), 1) := by decide +kernel
theorem dX5_refusal_5 : decode cX5_refusal 5 = .ok (.if_icmp .ne 6, 3) := by decide +kernel
theorem dX5_refusal_8 : decode cX5_refusal 8 = .ok (.bipush (-11), 2) := by decide +kernel
theorem dX5_refusal_10 : decode cX5_refusal 10 = .ok (.ireturn, 1) := by decide +kernel
theorem dX5_refusal_11 : decode cX5_refusal 11 = .ok (.aload_n 0, 1) := by decide +kernel
theorem dX5_refusal_12 : decode cX5_refusal 12 = .ok (.getfield 9, 3) := by decide +kernel
theorem dX5_refusal_15 : decode cX5_refusal 15 = .ok (.iload_n 1, 1) := by decide +kernel
theorem dX5_refusal_16 : decode cX5_refusal 16 = .ok (.if_icmp .eq 6, 3) := by decide +kernel
theorem dX5_refusal_19 : decode cX5_refusal 19 = .ok (.bipush (-12), 2) := by decide +kernel
theorem dX5_refusal_21 : decode cX5_refusal 21 = .ok (.ireturn, 1) := by decide +kernel
theorem dX5_refusal_22 : decode cX5_refusal 22 = .ok (.aload_n 0, 1) := by decide +kernel
theorem dX5_refusal_23 : decode cX5_refusal 23 = .ok (.iload_n 2, 1) := by decide +kernel
theorem dX5_refusal_24 : decode cX5_refusal 24 = .ok (.iload_n 3, 1) := by decide +kernel
theorem dX5_refusal_25 : decode cX5_refusal 25 = .ok (.invokevirtual 22, 3) := by decide +kernel
theorem dX5_refusal_28 : decode cX5_refusal 28 = .ok (.ifCond .eq 7, 3) := by decide +kernel
theorem dX5_refusal_31 : decode cX5_refusal 31 = .ok (.iconst 0, 1) := by decide +kernel
theorem dX5_refusal_32 : decode cX5_refusal 32 = .ok (.goto 5, 3) := by decide +kernel
theorem dX5_refusal_35 : decode cX5_refusal 35 = .ok (.bipush (-13), 2) := by decide +kernel
theorem dX5_refusal_37 : decode cX5_refusal 37 = .ok (.ireturn, 1) := by decide +kernel
theorem dX5_put_0 : decode cX5_put 0 = .ok (.aload_n 0, 1) := by decide +kernel
theorem dX5_put_1 : decode cX5_put 1 = .ok (.getfield 9, 3) := by decide +kernel
theorem dX5_put_4 : decode cX5_put 4 = .ok (.ifCond .ne 15, 3) := by decide +kernel
theorem dX5_put_7 : decode cX5_put 7 = .ok (.aload_n 0, 1) := by decide +kernel
theorem dX5_put_8 : decode cX5_put 8 = .ok (.getfield 15, 3) := by decide +kernel
theorem dX5_put_11 : decode cX5_put 11 = .ok (.iload_n 1, 1) := by decide +kernel
theorem dX5_put_12 : decode cX5_put 12 = .ok (.lload_n 2, 1) := by decide +kernel
theorem dX5_put_13 : decode cX5_put 13 = .ok (.l2i, 1) := by decide +kernel
theorem dX5_put_14 : decode cX5_put 14 = .ok (.i2b, 1) := by decide +kernel
theorem dX5_put_15 : decode cX5_put 15 = .ok (.iastore, 1) := by decide +kernel
theorem dX5_put_16 : decode cX5_put 16 = .ok (.goto 31, 3) := by decide +kernel
theorem dX5_put_19 : decode cX5_put 19 = .ok (.aload_n 0, 1) := by decide +kernel
theorem dX5_put_20 : decode cX5_put 20 = .ok (.getfield 9, 3) := by decide +kernel
theorem dX5_put_23 : decode cX5_put 23 = .ok (.iconst 1, 1) := by decide +kernel
theorem dX5_put_24 : decode cX5_put 24 = .ok (.if_icmp .ne 15, 3) := by decide +kernel
theorem dX5_put_27 : decode cX5_put 27 = .ok (.aload_n 0, 1) := by decide +kernel
theorem dX5_put_28 : decode cX5_put 28 = .ok (.getfield 15, 3) := by decide +kernel
theorem dX5_put_31 : decode cX5_put 31 = .ok (.iload_n 1, 1) := by decide +kernel
theorem dX5_put_32 : decode cX5_put 32 = .ok (.lload_n 2, 1) := by decide +kernel
theorem dX5_put_33 : decode cX5_put 33 = .ok (.l2i, 1) := by decide +kernel
theorem dX5_put_34 : decode cX5_put 34 = .ok (.i2s, 1) := by decide +kernel
theorem dX5_put_35 : decode cX5_put 35 = .ok (.iastore, 1) := by decide +kernel
theorem dX5_put_36 : decode cX5_put 36 = .ok (.goto 11, 3) := by decide +kernel
theorem dX5_put_39 : decode cX5_put 39 = .ok (.aload_n 0, 1) := by decide +kernel
theorem dX5_put_40 : decode cX5_put 40 = .ok (.getfield 15, 3) := by decide +kernel
theorem dX5_put_43 : decode cX5_put 43 = .ok (.iload_n 1, 1) := by decide +kernel
theorem dX5_put_44 : decode cX5_put 44 = .ok (.lload_n 2, 1) := by decide +kernel
theorem dX5_put_45 : decode cX5_put 45 = .ok (.l2i, 1) := by decide +kernel
theorem dX5_put_46 : decode cX5_put 46 = .ok (.iastore, 1) := by decide +kernel
theorem dX5_put_47 : decode cX5_put 47 = .ok (.return_, 1) := by decide +kernel
theorem dX6_init_0 : decode cX6_init 0 = .ok (.aload_n 0, 1) := by decide +kernel
theorem dX6_init_1 : decode cX6_init 1 = .ok (.invokespecial 3, 3) := by decide +kernel
theorem dX6_init_4 : decode cX6_init 4 = .ok (.aload_n 0, 1) := by decide +kernel
theorem dX6_init_5 : decode cX6_init 5 = .ok (.bipush 8, 2) := by decide +kernel
theorem dX6_init_7 : decode cX6_init 7 = .ok (.newarray .int, 2) := by decide +kernel
theorem dX6_init_9 : decode cX6_init 9 = .ok (.putfield 9, 3) := by decide +kernel
theorem dX6_init_12 : decode cX6_init 12 = .ok (.aload_n 0, 1) := by decide +kernel
theorem dX6_init_13 : decode cX6_init 13 = .ok (.bipush 8, 2) := by decide +kernel
theorem dX6_init_15 : decode cX6_init 15 = .ok (.newarray .int, 2) := by decide +kernel
theorem dX6_init_17 : decode cX6_init 17 = .ok (.putfield 15, 3) := by decide +kernel
theorem dX6_init_20 : decode cX6_init 20 = .ok (.aload_n 0, 1) := by decide +kernel
theorem dX6_init_21 : decode cX6_init 21 = .ok (.bipush 8, 2) := by decide +kernel
theorem dX6_init_23 : decode cX6_init 23 = .ok (.newarray .int, 2) := by decide +kernel
theorem dX6_init_25 : decode cX6_init 25 = .ok (.putfield 18, 3) := by decide +kernel
theorem dX6_init_28 : decode cX6_init 28 = .ok (.aload_n 0, 1) := by decide +kernel
theorem dX6_init_29 : decode cX6_init 29 = .ok (.iconst 5, 1) := by decide +kernel
theorem dX6_init_30 : decode cX6_init 30 = .ok (.newarray .int, 2) := by decide +kernel
theorem dX6_init_32 : decode cX6_init 32 = .ok (.putfield 21, 3) := by decide +kernel
theorem dX6_init_35 : decode cX6_init 35 = .ok (.aload_n 0, 1) := by decide +kernel
theorem dX6_init_36 : decode cX6_init 36 = .ok (.iconst 5, 1) := by decide +kernel
theorem dX6_init_37 : decode cX6_init 37 = .ok (.newarray .int, 2) := by decide +kernel
theorem dX6_init_39 : decode cX6_init 39 = .ok (.putfield 24, 3) := by decide +kernel
theorem dX6_init_42 : decode cX6_init 42 = .ok (.return_, 1) := by decide +kernel
theorem dX6_run_0 : decode cX6_run 0 = .ok (.aload_n 0, 1) := by decide +kernel
theorem dX6_run_1 : decode cX6_run 1 = .ok (.aload_n 1, 1) := by decide +kernel
theorem dX6_run_2 : decode cX6_run 2 = .ok (.getfield 27, 3) := by decide +kernel
theorem dX6_run_5 : decode cX6_run 5 = .ok (.putfield 33, 3) := by decide +kernel
theorem dX6_run_8 : decode cX6_run 8 = .ok (.aload_n 0, 1) := by decide +kernel
theorem dX6_run_9 : decode cX6_run 9 = .ok (.iload_n 3, 1) := by decide +kernel
theorem dX6_run_10 : decode cX6_run 10 = .ok (.putfield 34, 3) := by decide +kernel
theorem dX6_run_13 : decode cX6_run 13 = .ok (.aload_n 0, 1) := by decide +kernel
theorem dX6_run_14 : decode cX6_run 14 = .ok (.aload_n 1, 1) := by decide +kernel
theorem dX6_run_15 : decode cX6_run 15 = .ok (.getfield 37, 3) := by decide +kernel
theorem dX6_run_18 : decode cX6_run 18 = .ok (.iconst 1, 1) := by decide +kernel
theorem dX6_run_19 : decode cX6_run 19 = .ok (.iadd, 1) := by decide +kernel
theorem dX6_run_20 : decode cX6_run 20 = .ok (.putfield 38, 3) := by decide +kernel
theorem dX6_run_23 : decode cX6_run 23 = .ok (.aload_n 0, 1) := by decide +kernel
theorem dX6_run_24 : decode cX6_run 24 = .ok (.aload_n 1, 1) := by decide +kernel
theorem dX6_run_25 : decode cX6_run 25 = .ok (.getfield 41, 3) := by decide +kernel
theorem dX6_run_28 : decode cX6_run 28 = .ok (.putfield 44, 3) := by decide +kernel
theorem dX6_run_31 : decode cX6_run 31 = .ok (.aload_n 0, 1) := by decide +kernel
theorem dX6_run_32 : decode cX6_run 32 = .ok (.iconst 0, 1) := by decide +kernel
theorem dX6_run_33 : decode cX6_run 33 = .ok (.putfield 45, 3) := by decide +kernel
theorem dX6_run_36 : decode cX6_run 36 = .ok (.aload_n 0, 1) := by decide +kernel
theorem dX6_run_37 : decode cX6_run 37 = .ok (.iconst (-1), 1) := by decide +kernel
theorem dX6_run_38 : decode cX6_run 38 = .ok (.putfield 48, 3) := by decide +kernel
theorem dX6_run_41 : decode cX6_run 41 = .ok (.iconst 0, 1) := by decide +kernel
theorem dX6_run_42 : decode cX6_run 42 = .ok (.istore 4, 2) := by decide +kernel
theorem dX6_run_44 : decode cX6_run 44 = .ok (.iload 4, 2) := by decide +kernel
theorem dX6_run_46 : decode cX6_run 46 = .ok (.aload_n 0, 1) := by decide +kernel
theorem dX6_run_47 : decode cX6_run 47 = .ok (.getfield 33, 3) := by decide +kernel
theorem dX6_run_50 : decode cX6_run 50 = .ok (.if_icmp .ge 50, 3) := by decide +kernel
theorem dX6_run_53 : decode cX6_run 53 = .ok (.aload_n 0, 1) := by decide +kernel
theorem dX6_run_54 : decode cX6_run 54 = .ok (.getfield 18, 3) := by decide +kernel
theorem dX6_run_57 : decode cX6_run 57 = .ok (.iload 4, 2) := by decide +kernel
theorem dX6_run_59 : decode cX6_run 59 = .ok (.aload_n 1, 1) := by decide +kernel
theorem dX6_run_60 : decode cX6_run 60 = .ok (.getfield 51, 3) := by decide +kernel
theorem dX6_run_63 : decode cX6_run 63 = .ok (.iload_n 2, 1) := by decide +kernel
theorem dX6_run_64 : decode cX6_run 64 = .ok (.aaload, 1) := by decide +kernel
theorem dX6_run_65 : decode cX6_run 65 = .ok (.iload 4, 2) := by decide +kernel
theorem dX6_run_67 : decode cX6_run 67 = .ok (.iaload, 1) := by decide +kernel
theorem dX6_run_68 : decode cX6_run 68 = .ok (.iastore, 1) := by decide +kernel
theorem dX6_run_69 : decode cX6_run 69 = .ok (.aload_n 0, 1) := by decide +kernel
theorem dX6_run_70 : decode cX6_run 70 = .ok (.aload_n 1, 1) := by decide +kernel
theorem dX6_run_71 : decode cX6_run 71 = .ok (.iload 4, 2) := by decide +kernel
theorem dX6_run_73 : decode cX6_run 73 = .ok (.invokevirtual 54, 3) := by decide +kernel
theorem dX6_run_76 : decode cX6_run 76 = .ok (.aload_n 0, 1) := by decide +kernel
theorem dX6_run_77 : decode cX6_run 77 = .ok (.aload_n 0, 1) := by decide +kernel
theorem dX6_run_78 : decode cX6_run 78 = .ok (.getfield 45, 3) := by decide +kernel
theorem dX6_run_81 : decode cX6_run 81 = .ok (.aload_n 0, 1) := by decide +kernel
theorem dX6_run_82 : decode cX6_run 82 = .ok (.getfield 9, 3) := by decide +kernel
theorem dX6_run_85 : decode cX6_run 85 = .ok (.iload 4, 2) := by decide +kernel
theorem dX6_run_87 : decode cX6_run 87 = .ok (.iaload, 1) := by decide +kernel
theorem dX6_run_88 : decode cX6_run 88 = .ok (.invokestatic 58, 3) := by decide +kernel
theorem dX6_run_91 : decode cX6_run 91 = .ok (.putfield 45, 3) := by decide +kernel
theorem dX6_run_94 : decode cX6_run 94 = .ok (.iinc 4 1, 3) := by decide +kernel
theorem dX6_run_97 : decode cX6_run 97 = .ok (.goto (-53), 3) := by decide +kernel
theorem dX6_run_100 : decode cX6_run 100 = .ok (.aload_n 0, 1) := by decide +kernel
theorem dX6_run_101 : decode cX6_run 101 = .ok (.iconst 0, 1) := by decide +kernel
theorem dX6_run_102 : decode cX6_run 102 = .ok (.iconst 0, 1) := by decide +kernel
theorem dX6_run_103 : decode cX6_run 103 = .ok (.invokevirtual 64, 3) := by decide +kernel
theorem dX6_run_106 : decode cX6_run 106 = .ok (.return_, 1) := by decide +kernel
theorem dX6_weigh_0 : decode cX6_weigh 0 = .ok (.aload_n 0, 1) := by decide +kernel
theorem dX6_weigh_1 : decode cX6_weigh 1 = .ok (.getfield 9, 3) := by decide +kernel
theorem dX6_weigh_4 : decode cX6_weigh 4 = .ok (.iload_n 2, 1) := by decide +kernel
theorem dX6_weigh_5 : decode cX6_weigh 5 = .ok (.iconst 0, 1) := by decide +kernel
theorem dX6_weigh_6 : decode cX6_weigh 6 = .ok (.iastore, 1) := by decide +kernel
theorem dX6_weigh_7 : decode cX6_weigh 7 = .ok (.aload_n 0, 1) := by decide +kernel
theorem dX6_weigh_8 : decode cX6_weigh 8 = .ok (.getfield 15, 3) := by decide +kernel
theorem dX6_weigh_11 : decode cX6_weigh 11 = .ok (.iload_n 2, 1) := by decide +kernel
theorem dX6_weigh_12 : decode cX6_weigh 12 = .ok (.iconst 0, 1) := by decide +kernel
theorem dX6_weigh_13 : decode cX6_weigh 13 = .ok (.iastore, 1) := by decide +kernel
theorem dX6_weigh_14 : decode cX6_weigh 14 = .ok (.iconst 0, 1) := by decide +kernel
theorem dX6_weigh_15 : decode cX6_weigh 15 = .ok (.istore_n 3, 1) := by decide +kernel
theorem dX6_weigh_16 : decode cX6_weigh 16 = .ok (.iload_n 3, 1) := by decide +kernel
theorem dX6_weigh_17 : decode cX6_weigh 17 = .ok (.aload_n 1, 1) := by decide +kernel
theorem dX6_weigh_18 : decode cX6_weigh 18 = .ok (.getfield 68, 3) := by decide +kernel
theorem dX6_weigh_21 : decode cX6_weigh 21 = .ok (.iload_n 2, 1) := by decide +kernel
theorem dX6_weigh_22 : decode cX6_weigh 22 = .ok (.iaload, 1) := by decide +kernel
theorem dX6_weigh_23 : decode cX6_weigh 23 = .ok (.if_icmp .ge 47, 3) := by decide +kernel
theorem dX6_weigh_26 : decode cX6_weigh 26 = .ok (.aload_n 1, 1) := by decide +kernel
theorem dX6_weigh_27 : decode cX6_weigh 27 = .ok (.getfield 71, 3) := by decide +kernel
theorem dX6_weigh_30 : decode cX6_weigh 30 = .ok (.iload_n 2, 1) := by decide +kernel
theorem dX6_weigh_31 : decode cX6_weigh 31 = .ok (.aaload, 1) := by decide +kernel
theorem dX6_weigh_32 : decode cX6_weigh 32 = .ok (.iload_n 3, 1) := by decide +kernel
theorem dX6_weigh_33 : decode cX6_weigh 33 = .ok (.iaload, 1) := by decide +kernel
theorem dX6_weigh_34 : decode cX6_weigh 34 = .ok (.invokestatic 74, 3) := by decide +kernel
theorem dX6_weigh_37 : decode cX6_weigh 37 = .ok (.istore 4, 2) := by decide +kernel
theorem dX6_weigh_39 : decode cX6_weigh 39 = .ok (.aload_n 0, 1) := by decide +kernel
theorem dX6_weigh_40 : decode cX6_weigh 40 = .ok (.getfield 9, 3) := by decide +kernel
theorem dX6_weigh_43 : decode cX6_weigh 43 = .ok (.iload_n 2, 1) := by decide +kernel
theorem dX6_weigh_44 : decode cX6_weigh 44 = .ok (.dup2, 1) := by decide +kernel
theorem dX6_weigh_45 : decode cX6_weigh 45 = .ok (.iaload, 1) := by decide +kernel
theorem dX6_weigh_46 : decode cX6_weigh 46 = .ok (.iload 4, 2) := by decide +kernel
theorem dX6_weigh_48 : decode cX6_weigh 48 = .ok (.iadd, 1) := by decide +kernel
theorem dX6_weigh_49 : decode cX6_weigh 49 = .ok (.iastore, 1) := by decide +kernel
theorem dX6_weigh_50 : decode cX6_weigh 50 = .ok (.aload_n 0, 1) := by decide +kernel
theorem dX6_weigh_51 : decode cX6_weigh 51 = .ok (.getfield 15, 3) := by decide +kernel
theorem dX6_weigh_54 : decode cX6_weigh 54 = .ok (.iload_n 2, 1) := by decide +kernel
theorem dX6_weigh_55 : decode cX6_weigh 55 = .ok (.dup2, 1) := by decide +kernel
theorem dX6_weigh_56 : decode cX6_weigh 56 = .ok (.iaload, 1) := by decide +kernel
theorem dX6_weigh_57 : decode cX6_weigh 57 = .ok (.iload 4, 2) := by decide +kernel
theorem dX6_weigh_59 : decode cX6_weigh 59 = .ok (.invokestatic 78, 3) := by decide +kernel
theorem dX6_weigh_62 : decode cX6_weigh 62 = .ok (.iadd, 1) := by decide +kernel
theorem dX6_weigh_63 : decode cX6_weigh 63 = .ok (.iastore, 1) := by decide +kernel
theorem dX6_weigh_64 : decode cX6_weigh 64 = .ok (.iinc 3 1, 3) := by decide +kernel
theorem dX6_weigh_67 : decode cX6_weigh 67 = .ok (.goto (-51), 3) := by decide +kernel
theorem dX6_weigh_70 : decode cX6_weigh 70 = .ok (.return_, 1) := by decide +kernel
theorem dX6_search_0 : decode cX6_search 0 = .ok (.iload_n 2, 1) := by decide +kernel
theorem dX6_search_1 : decode cX6_search 1 = .ok (.aload_n 0, 1) := by decide +kernel
theorem dX6_search_2 : decode cX6_search 2 = .ok (.getfield 34, 3) := by decide +kernel
theorem dX6_search_5 : decode cX6_search 5 = .ok (.iload_n 1, 1) := by decide +kernel
theorem dX6_search_6 : decode cX6_search 6 = .ok (.isub, 1) := by decide +kernel
theorem dX6_search_7 : decode cX6_search 7 = .ok (.aload_n 0, 1) := by decide +kernel
theorem dX6_search_8 : decode cX6_search 8 = .ok (.getfield 45, 3) := by decide +kernel
theorem dX6_search_11 : decode cX6_search 11 = .ok (.imul, 1) := by decide +kernel
theorem dX6_search_12 : decode cX6_search 12 = .ok (.iadd, 1) := by decide +kernel
theorem dX6_search_13 : decode cX6_search 13 = .ok (.aload_n 0, 1) := by decide +kernel
theorem dX6_search_14 : decode cX6_search 14 = .ok (.getfield 48, 3) := by decide +kernel
theorem dX6_search_17 : decode cX6_search 17 = .ok (.if_icmp .gt 4, 3) := by decide +kernel
theorem dX6_search_20 : decode cX6_search 20 = .ok (.return_, 1) := by decide +kernel
theorem dX6_search_21 : decode cX6_search 21 = .ok (.iload_n 1, 1) := by decide +kernel
theorem dX6_search_22 : decode cX6_search 22 = .ok (.aload_n 0, 1) := by decide +kernel
theorem dX6_search_23 : decode cX6_search 23 = .ok (.getfield 34, 3) := by decide +kernel
theorem dX6_search_26 : decode cX6_search 26 = .ok (.if_icmp .lt 26, 3) := by decide +kernel
theorem dX6_search_29 : decode cX6_search 29 = .ok (.aload_n 0, 1) := by decide +kernel
theorem dX6_search_30 : decode cX6_search 30 = .ok (.iload_n 2, 1) := by decide +kernel
theorem dX6_search_31 : decode cX6_search 31 = .ok (.putfield 48, 3) := by decide +kernel
theorem dX6_search_34 : decode cX6_search 34 = .ok (.aload_n 0, 1) := by decide +kernel
theorem dX6_search_35 : decode cX6_search 35 = .ok (.getfield 21, 3) := by decide +kernel
theorem dX6_search_38 : decode cX6_search 38 = .ok (.iconst 0, 1) := by decide +kernel
theorem dX6_search_39 : decode cX6_search 39 = .ok (.aload_n 0, 1) := by decide +kernel
theorem dX6_search_40 : decode cX6_search 40 = .ok (.getfield 24, 3) := by decide +kernel
theorem dX6_search_43 : decode cX6_search 43 = .ok (.iconst 0, 1) := by decide +kernel
theorem dX6_search_44 : decode cX6_search 44 = .ok (.aload_n 0, 1) := by decide +kernel
theorem dX6_search_45 : decode cX6_search 45 = .ok (.getfield 34, 3) := by decide +kernel
theorem dX6_search_48 : decode cX6_search 48 = .ok (.invokestatic 81, 3) := by decide +kernel
theorem dX6_search_51 : decode cX6_search 51 = .ok (.return_, 1) := by decide +kernel
theorem dX6_search_52 : decode cX6_search 52 = .ok (.aload_n 0, 1) := by decide +kernel
theorem dX6_search_53 : decode cX6_search 53 = .ok (.getfield 38, 3) := by decide +kernel
theorem dX6_search_56 : decode cX6_search 56 = .ok (.iload_n 1, 1) := by decide +kernel
theorem dX6_search_57 : decode cX6_search 57 = .ok (.iadd, 1) := by decide +kernel
theorem dX6_search_58 : decode cX6_search 58 = .ok (.istore_n 3, 1) := by decide +kernel
theorem dX6_search_59 : decode cX6_search 59 = .ok (.iconst 0, 1) := by decide +kernel
theorem dX6_search_60 : decode cX6_search 60 = .ok (.istore 4, 2) := by decide +kernel
theorem dX6_search_62 : decode cX6_search 62 = .ok (.iload 4, 2) := by decide +kernel
theorem dX6_search_64 : decode cX6_search 64 = .ok (.aload_n 0, 1) := by decide +kernel
theorem dX6_search_65 : decode cX6_search 65 = .ok (.getfield 33, 3) := by decide +kernel
theorem dX6_search_68 : decode cX6_search 68 = .ok (.if_icmp .ge 86, 3) := by decide +kernel
theorem dX6_search_71 : decode cX6_search 71 = .ok (.aload_n 0, 1) := by decide +kernel
theorem dX6_search_72 : decode cX6_search 72 = .ok (.getfield 18, 3) := by decide +kernel
theorem dX6_search_75 : decode cX6_search 75 = .ok (.iload 4, 2) := by decide +kernel
theorem dX6_search_77 : decode cX6_search 77 = .ok (.iaload, 1) := by decide +kernel
theorem dX6_search_78 : decode cX6_search 78 = .ok (.istore 5, 2) := by decide +kernel
theorem dX6_search_80 : decode cX6_search 80 = .ok (.iload 5, 2) := by decide +kernel
theorem dX6_search_82 : decode cX6_search 82 = .ok (.iload_n 3, 1) := by decide +kernel
theorem dX6_search_83 : decode cX6_search 83 = .ok (.aload_n 0, 1) := by decide +kernel
theorem dX6_search_84 : decode cX6_search 84 = .ok (.getfield 44, 3) := by decide +kernel
theorem dX6_search_87 : decode cX6_search 87 = .ok (.invokestatic 87, 3) := by decide +kernel
theorem dX6_search_90 : decode cX6_search 90 = .ok (.istore 6, 2) := by decide +kernel
theorem dX6_search_92 : decode cX6_search 92 = .ok (.aload_n 0, 1) := by decide +kernel
theorem dX6_search_93 : decode cX6_search 93 = .ok (.getfield 21, 3) := by decide +kernel
theorem dX6_search_96 : decode cX6_search 96 = .ok (.iload_n 1, 1) := by decide +kernel
theorem dX6_search_97 : decode cX6_search 97 = .ok (.iload 4, 2) := by decide +kernel
theorem dX6_search_99 : decode cX6_search 99 = .ok (.iastore, 1) := by decide +kernel
theorem dX6_search_100 : decode cX6_search 100 = .ok (.aload_n 0, 1) := by decide +kernel
theorem dX6_search_101 : decode cX6_search 101 = .ok (.getfield 18, 3) := by decide +kernel
theorem dX6_search_104 : decode cX6_search 104 = .ok (.iload 4, 2) := by decide +kernel
theorem dX6_search_106 : decode cX6_search 106 = .ok (.iload_n 3, 1) := by decide +kernel
theorem dX6_search_107 : decode cX6_search 107 = .ok (.iastore, 1) := by decide +kernel
theorem dX6_search_108 : decode cX6_search 108 = .ok (.aload_n 0, 1) := by decide +kernel
theorem dX6_search_109 : decode cX6_search 109 = .ok (.iload_n 1, 1) := by decide +kernel
theorem dX6_search_110 : decode cX6_search 110 = .ok (.iconst 1, 1) := by decide +kernel
theorem dX6_search_111 : decode cX6_search 111 = .ok (.iadd, 1) := by decide +kernel
theorem dX6_search_112 : decode cX6_search 112 = .ok (.iload_n 2, 1) := by decide +kernel
theorem dX6_search_113 : decode cX6_search 113 = .ok (.iload 6, 2) := by decide +kernel
theorem dX6_search_115 : decode cX6_search 115 = .ok (.ifCond .eq 13, 3) := by decide +kernel
theorem dX6_search_118 : decode cX6_search 118 = .ok (.aload_n 0, 1) := by decide +kernel
theorem dX6_search_119 : decode cX6_search 119 = .ok (.getfield 15, 3) := by decide +kernel
theorem dX6_search_122 : decode cX6_search 122 = .ok (.iload 4, 2) := by decide +kernel
theorem dX6_search_124 : decode cX6_search 124 = .ok (.iaload, 1) := by decide +kernel
theorem dX6_search_125 : decode cX6_search 125 = .ok (.goto 10, 3) := by decide +kernel
theorem dX6_search_128 : decode cX6_search 128 = .ok (.aload_n 0, 1) := by decide +kernel
theorem dX6_search_129 : decode cX6_search 129 = .ok (.getfield 9, 3) := by decide +kernel
theorem dX6_search_132 : decode cX6_search 132 = .ok (.iload 4, 2) := by decide +kernel
theorem dX6_search_134 : decode cX6_search 134 = .ok (.iaload, 1) := by decide +kernel
theorem dX6_search_135 : decode cX6_search 135 = .ok (.iadd, 1) := by decide +kernel
theorem dX6_search_136 : decode cX6_search 136 = .ok (.invokevirtual 64, 3) := by decide +kernel
theorem dX6_search_139 : decode cX6_search 139 = .ok (.aload_n 0, 1) := by decide +kernel
theorem dX6_search_140 : decode cX6_search 140 = .ok (.getfield 18, 3) := by decide +kernel
theorem dX6_search_143 : decode cX6_search 143 = .ok (.iload 4, 2) := by decide +kernel
theorem dX6_search_145 : decode cX6_search 145 = .ok (.iload 5, 2) := by decide +kernel
theorem dX6_search_147 : decode cX6_search 147 = .ok (.iastore, 1) := by decide +kernel
theorem dX6_search_148 : decode cX6_search 148 = .ok (.iinc 4 1, 3) := by decide +kernel
theorem dX6_search_151 : decode cX6_search 151 = .ok (.goto (-89), 3) := by decide +kernel
theorem dX6_search_154 : decode cX6_search 154 = .ok (.return_, 1) := by decide +kernel
theorem dX7_init_0 : decode cX7_init 0 = .ok (.aload_n 0, 1) := by decide +kernel
theorem dX7_init_1 : decode cX7_init 1 = .ok (.invokespecial 3, 3) := by decide +kernel
theorem dX7_init_4 : decode cX7_init 4 = .ok (.aload_n 0, 1) := by decide +kernel
theorem dX7_init_5 : decode cX7_init 5 = .ok (.bipush 24, 2) := by decide +kernel
theorem dX7_init_7 : decode cX7_init 7 = .ok (.newarray .int, 2) := by decide +kernel
theorem dX7_init_9 : decode cX7_init 9 = .ok (.putfield 9, 3) := by decide +kernel
theorem dX7_init_12 : decode cX7_init 12 = .ok (.return_, 1) := by decide +kernel
theorem dX7_append_0 : decode cX7_append 0 = .ok (.aload_n 0, 1) := by decide +kernel
theorem dX7_append_1 : decode cX7_append 1 = .ok (.getfield 15, 3) := by decide +kernel
theorem dX7_append_4 : decode cX7_append 4 = .ok (.bipush 24, 2) := by decide +kernel
theorem dX7_append_6 : decode cX7_append 6 = .ok (.if_icmp .ge 20, 3) := by decide +kernel
theorem dX7_append_9 : decode cX7_append 9 = .ok (.aload_n 0, 1) := by decide +kernel
theorem dX7_append_10 : decode cX7_append 10 = .ok (.getfield 9, 3) := by decide +kernel
theorem dX7_append_13 : decode cX7_append 13 = .ok (.aload_n 0, 1) := by decide +kernel
theorem dX7_append_14 : decode cX7_append 14 = .ok (.dup, 1) := by decide +kernel
theorem dX7_append_15 : decode cX7_append 15 = .ok (.getfield 15, 3) := by decide +kernel
theorem dX7_append_18 : decode cX7_append 18 = .ok (.dup_x1, 1) := by decide +kernel
theorem dX7_append_19 : decode cX7_append 19 = .ok (.iconst 1, 1) := by decide +kernel
theorem dX7_append_20 : decode cX7_append 20 = .ok (.iadd, 1) := by decide +kernel
theorem dX7_append_21 : decode cX7_append 21 = .ok (.putfield 15, 3) := by decide +kernel
theorem dX7_append_24 : decode cX7_append 24 = .ok (.iload_n 1, 1) := by decide +kernel
theorem dX7_append_25 : decode cX7_append 25 = .ok (.iastore, 1) := by decide +kernel
theorem dX7_append_26 : decode cX7_append 26 = .ok (.return_, 1) := by decide +kernel
theorem dX7_parseInto_0 : decode cX7_parseInto 0 = .ok (.iconst 0, 1) := by decide +kernel
theorem dX7_parseInto_1 : decode cX7_parseInto 1 = .ok (.istore_n 2, 1) := by decide +kernel
theorem dX7_parseInto_2 : decode cX7_parseInto 2 = .ok (.iconst 0, 1) := by decide +kernel
theorem dX7_parseInto_3 : decode cX7_parseInto 3 = .ok (.istore_n 3, 1) := by decide +kernel
theorem dX7_parseInto_4 : decode cX7_parseInto 4 = .ok (.iload_n 3, 1) := by decide +kernel
theorem dX7_parseInto_5 : decode cX7_parseInto 5 = .ok (.aload_n 0, 1) := by decide +kernel
theorem dX7_parseInto_6 : decode cX7_parseInto 6 = .ok (.getfield 15, 3) := by decide +kernel
theorem dX7_parseInto_9 : decode cX7_parseInto 9 = .ok (.if_icmp .ge 65, 3) := by decide +kernel
theorem dX7_parseInto_12 : decode cX7_parseInto 12 = .ok (.aload_n 0, 1) := by decide +kernel
theorem dX7_parseInto_13 : decode cX7_parseInto 13 = .ok (.getfield 9, 3) := by decide +kernel
theorem dX7_parseInto_16 : decode cX7_parseInto 16 = .ok (.iload_n 3, 1) := by decide +kernel
theorem dX7_parseInto_17 : decode cX7_parseInto 17 = .ok (.iaload, 1) := by decide +kernel
theorem dX7_parseInto_18 : decode cX7_parseInto 18 = .ok (.bipush 32, 2) := by decide +kernel
theorem dX7_parseInto_20 : decode cX7_parseInto 20 = .ok (.if_icmp .ne 6, 3) := by decide +kernel
theorem dX7_parseInto_23 : decode cX7_parseInto 23 = .ok (.goto 45, 3) := by decide +kernel
theorem dX7_parseInto_26 : decode cX7_parseInto 26 = .ok (.aload_n 0, 1) := by decide +kernel
theorem dX7_parseInto_27 : decode cX7_parseInto 27 = .ok (.getfield 9, 3) := by decide +kernel
theorem dX7_parseInto_30 : decode cX7_parseInto 30 = .ok (.iload_n 3, 1) := by decide +kernel
theorem dX7_parseInto_31 : decode cX7_parseInto 31 = .ok (.iaload, 1) := by decide +kernel
theorem dX7_parseInto_32 : decode cX7_parseInto 32 = .ok (.bipush 48, 2) := by decide +kernel
theorem dX7_parseInto_34 : decode cX7_parseInto 34 = .ok (.bipush 57, 2) := by decide +kernel
theorem dX7_parseInto_36 : decode cX7_parseInto 36 = .ok (.invokestatic 19, 3) := by decide +kernel
theorem dX7_parseInto_39 : decode cX7_parseInto 39 = .ok (.ifCond .eq 9, 3) := by decide +kernel
theorem dX7_parseInto_42 : decode cX7_parseInto 42 = .ok (.iload_n 2, 1) := by decide +kernel
theorem dX7_parseInto_43 : decode cX7_parseInto 43 = .ok (.bipush 9, 2) := by decide +kernel
theorem dX7_parseInto_45 : decode cX7_parseInto 45 = .ok (.if_icmp .lt 8, 3) := by decide +kernel
theorem dX7_parseInto_48 : decode cX7_parseInto 48 = .ok (.bipush (-20), 2) := by decide +kernel
theorem dX7_parseInto_50 : decode cX7_parseInto 50 = .ok (.iload_n 3, 1) := by decide +kernel
theorem dX7_parseInto_51 : decode cX7_parseInto 51 = .ok (.isub, 1) := by decide +kernel
theorem dX7_parseInto_52 : decode cX7_parseInto 52 = .ok (.ireturn, 1) := by decide +kernel
theorem dX7_parseInto_53 : decode cX7_parseInto 53 = .ok (.aload_n 1, 1) := by decide +kernel
theorem dX7_parseInto_54 : decode cX7_parseInto 54 = .ok (.iload_n 2, 1) := by decide +kernel
theorem dX7_parseInto_55 : decode cX7_parseInto 55 = .ok (.iinc 2 1, 3) := by decide +kernel
theorem dX7_parseInto_58 : decode cX7_parseInto 58 = .ok (.aload_n 0, 1) := by decide +kernel
theorem dX7_parseInto_59 : decode cX7_parseInto 59 = .ok (.getfield 9, 3) := by decide +kernel
theorem dX7_parseInto_62 : decode cX7_parseInto 62 = .ok (.iload_n 3, 1) := by decide +kernel
theorem dX7_parseInto_63 : decode cX7_parseInto 63 = .ok (.iaload, 1) := by decide +kernel
theorem dX7_parseInto_64 : decode cX7_parseInto 64 = .ok (.bipush 48, 2) := by decide +kernel
theorem dX7_parseInto_66 : decode cX7_parseInto 66 = .ok (.isub, 1) := by decide +kernel
theorem dX7_parseInto_67 : decode cX7_parseInto 67 = .ok (.iastore, 1) := by decide +kernel
theorem dX7_parseInto_68 : decode cX7_parseInto 68 = .ok (.iinc 3 1, 3) := by decide +kernel
theorem dX7_parseInto_71 : decode cX7_parseInto 71 = .ok (.goto (-67), 3) := by decide +kernel
theorem dX7_parseInto_74 : decode cX7_parseInto 74 = .ok (.iload_n 2, 1) := by decide +kernel
theorem dX7_parseInto_75 : decode cX7_parseInto 75 = .ok (.ifCond .le 7, 3) := by decide +kernel
theorem dX7_parseInto_78 : decode cX7_parseInto 78 = .ok (.iload_n 2, 1) := by decide +kernel
theorem dX7_parseInto_79 : decode cX7_parseInto 79 = .ok (.goto 10, 3) := by decide +kernel
theorem dX7_parseInto_82 : decode cX7_parseInto 82 = .ok (.bipush (-20), 2) := by decide +kernel
theorem dX7_parseInto_84 : decode cX7_parseInto 84 = .ok (.aload_n 0, 1) := by decide +kernel
theorem dX7_parseInto_85 : decode cX7_parseInto 85 = .ok (.getfield 15, 3) := by decide +kernel
theorem dX7_parseInto_88 : decode cX7_parseInto 88 = .ok (.isub, 1) := by decide +kernel
theorem dX7_parseInto_89 : decode cX7_parseInto 89 = .ok (.ireturn, 1) := by decide +kernel
theorem dJ6_bitCount_0f7a4_0 : decode cJ6_bitCount_0f7a4 0 = .ok (.iload_n 0, 1) := by decide +kernel
theorem dJ6_bitCount_0f7a4_1 : decode cJ6_bitCount_0f7a4 1 = .ok (.iload_n 0, 1) := by decide +kernel
theorem dJ6_bitCount_0f7a4_2 : decode cJ6_bitCount_0f7a4 2 = .ok (.iconst 1, 1) := by decide +kernel
theorem dJ6_bitCount_0f7a4_3 : decode cJ6_bitCount_0f7a4 3 = .ok (.iushr, 1) := by decide +kernel
theorem dJ6_bitCount_0f7a4_4 : decode cJ6_bitCount_0f7a4 4 = .ok (.ldc_w 265, 3) := by decide +kernel
theorem dJ6_bitCount_0f7a4_7 : decode cJ6_bitCount_0f7a4 7 = .ok (.iand, 1) := by decide +kernel
theorem dJ6_bitCount_0f7a4_8 : decode cJ6_bitCount_0f7a4 8 = .ok (.isub, 1) := by decide +kernel
theorem dJ6_bitCount_0f7a4_9 : decode cJ6_bitCount_0f7a4 9 = .ok (.istore_n 0, 1) := by decide +kernel
theorem dJ6_bitCount_0f7a4_10 : decode cJ6_bitCount_0f7a4 10 = .ok (.iload_n 0, 1) := by decide +kernel
theorem dJ6_bitCount_0f7a4_11 : decode cJ6_bitCount_0f7a4 11 = .ok (.ldc_w 266, 3) := by decide +kernel
theorem dJ6_bitCount_0f7a4_14 : decode cJ6_bitCount_0f7a4 14 = .ok (.iand, 1) := by decide +kernel
theorem dJ6_bitCount_0f7a4_15 : decode cJ6_bitCount_0f7a4 15 = .ok (.iload_n 0, 1) := by decide +kernel
theorem dJ6_bitCount_0f7a4_16 : decode cJ6_bitCount_0f7a4 16 = .ok (.iconst 2, 1) := by decide +kernel
theorem dJ6_bitCount_0f7a4_17 : decode cJ6_bitCount_0f7a4 17 = .ok (.iushr, 1) := by decide +kernel
theorem dJ6_bitCount_0f7a4_18 : decode cJ6_bitCount_0f7a4 18 = .ok (.ldc_w 266, 3) := by decide +kernel
theorem dJ6_bitCount_0f7a4_21 : decode cJ6_bitCount_0f7a4 21 = .ok (.iand, 1) := by decide +kernel
theorem dJ6_bitCount_0f7a4_22 : decode cJ6_bitCount_0f7a4 22 = .ok (.iadd, 1) := by decide +kernel
theorem dJ6_bitCount_0f7a4_23 : decode cJ6_bitCount_0f7a4 23 = .ok (.istore_n 0, 1) := by decide +kernel
theorem dJ6_bitCount_0f7a4_24 : decode cJ6_bitCount_0f7a4 24 = .ok (.iload_n 0, 1) := by decide +kernel
theorem dJ6_bitCount_0f7a4_25 : decode cJ6_bitCount_0f7a4 25 = .ok (.iload_n 0, 1) := by decide +kernel
theorem dJ6_bitCount_0f7a4_26 : decode cJ6_bitCount_0f7a4 26 = .ok (.iconst 4, 1) := by decide +kernel
theorem dJ6_bitCount_0f7a4_27 : decode cJ6_bitCount_0f7a4 27 = .ok (.iushr, 1) := by decide +kernel
theorem dJ6_bitCount_0f7a4_28 : decode cJ6_bitCount_0f7a4 28 = .ok (.iadd, 1) := by decide +kernel
theorem dJ6_bitCount_0f7a4_29 : decode cJ6_bitCount_0f7a4 29 = .ok (.ldc_w 267, 3) := by decide +kernel
theorem dJ6_bitCount_0f7a4_32 : decode cJ6_bitCount_0f7a4 32 = .ok (.iand, 1) := by decide +kernel
theorem dJ6_bitCount_0f7a4_33 : decode cJ6_bitCount_0f7a4 33 = .ok (.istore_n 0, 1) := by decide +kernel
theorem dJ6_bitCount_0f7a4_34 : decode cJ6_bitCount_0f7a4 34 = .ok (.iload_n 0, 1) := by decide +kernel
theorem dJ6_bitCount_0f7a4_35 : decode cJ6_bitCount_0f7a4 35 = .ok (.iload_n 0, 1) := by decide +kernel
theorem dJ6_bitCount_0f7a4_36 : decode cJ6_bitCount_0f7a4 36 = .ok (.bipush 8, 2) := by decide +kernel
theorem dJ6_bitCount_0f7a4_38 : decode cJ6_bitCount_0f7a4 38 = .ok (.iushr, 1) := by decide +kernel
theorem dJ6_bitCount_0f7a4_39 : decode cJ6_bitCount_0f7a4 39 = .ok (.iadd, 1) := by decide +kernel
theorem dJ6_bitCount_0f7a4_40 : decode cJ6_bitCount_0f7a4 40 = .ok (.istore_n 0, 1) := by decide +kernel
theorem dJ6_bitCount_0f7a4_41 : decode cJ6_bitCount_0f7a4 41 = .ok (.iload_n 0, 1) := by decide +kernel
theorem dJ6_bitCount_0f7a4_42 : decode cJ6_bitCount_0f7a4 42 = .ok (.iload_n 0, 1) := by decide +kernel
theorem dJ6_bitCount_0f7a4_43 : decode cJ6_bitCount_0f7a4 43 = .ok (.bipush 16, 2) := by decide +kernel
theorem dJ6_bitCount_0f7a4_45 : decode cJ6_bitCount_0f7a4 45 = .ok (.iushr, 1) := by decide +kernel
theorem dJ6_bitCount_0f7a4_46 : decode cJ6_bitCount_0f7a4 46 = .ok (.iadd, 1) := by decide +kernel
theorem dJ6_bitCount_0f7a4_47 : decode cJ6_bitCount_0f7a4 47 = .ok (.istore_n 0, 1) := by decide +kernel
theorem dJ6_bitCount_0f7a4_48 : decode cJ6_bitCount_0f7a4 48 = .ok (.iload_n 0, 1) := by decide +kernel
theorem dJ6_bitCount_0f7a4_49 : decode cJ6_bitCount_0f7a4 49 = .ok (.bipush 63, 2) := by decide +kernel
theorem dJ6_bitCount_0f7a4_51 : decode cJ6_bitCount_0f7a4 51 = .ok (.iand, 1) := by decide +kernel
theorem dJ6_bitCount_0f7a4_52 : decode cJ6_bitCount_0f7a4 52 = .ok (.ireturn, 1) := by decide +kernel
theorem dJ9_max_7cf53_0 : decode cJ9_max_7cf53 0 = .ok (.iload_n 0, 1) := by decide +kernel
theorem dJ9_max_7cf53_1 : decode cJ9_max_7cf53 1 = .ok (.iload_n 1, 1) := by decide +kernel
theorem dJ9_max_7cf53_2 : decode cJ9_max_7cf53 2 = .ok (.if_icmp .lt 7, 3) := by decide +kernel
theorem dJ9_max_7cf53_5 : decode cJ9_max_7cf53 5 = .ok (.iload_n 0, 1) := by decide +kernel
theorem dJ9_max_7cf53_6 : decode cJ9_max_7cf53 6 = .ok (.goto 4, 3) := by decide +kernel
theorem dJ9_max_7cf53_9 : decode cJ9_max_7cf53 9 = .ok (.iload_n 1, 1) := by decide +kernel
theorem dJ9_max_7cf53_10 : decode cJ9_max_7cf53 10 = .ok (.ireturn, 1) := by decide +kernel
theorem dJ9_min_7cf53_0 : decode cJ9_min_7cf53 0 = .ok (.iload_n 0, 1) := by decide +kernel
theorem dJ9_min_7cf53_1 : decode cJ9_min_7cf53 1 = .ok (.iload_n 1, 1) := by decide +kernel
theorem dJ9_min_7cf53_2 : decode cJ9_min_7cf53 2 = .ok (.if_icmp .gt 7, 3) := by decide +kernel
theorem dJ9_min_7cf53_5 : decode cJ9_min_7cf53 5 = .ok (.iload_n 0, 1) := by decide +kernel
theorem dJ9_min_7cf53_6 : decode cJ9_min_7cf53 6 = .ok (.goto 4, 3) := by decide +kernel
theorem dJ9_min_7cf53_9 : decode cJ9_min_7cf53 9 = .ok (.iload_n 1, 1) := by decide +kernel
theorem dJ9_min_7cf53_10 : decode cJ9_min_7cf53 10 = .ok (.ireturn, 1) := by decide +kernel
end
section
theorem dX8_init_0 : decode cX8_init 0 = .ok (.aload_n 0, 1) := by decide +kernel
theorem dX8_init_1 : decode cX8_init 1 = .ok (.invokespecial 1, 3) := by decide +kernel
theorem dX8_init_4 : decode cX8_init 4 = .ok (.aload_n 0, 1) := by decide +kernel
theorem dX8_init_5 : decode cX8_init 5 = .ok (.new 7, 3) := by decide +kernel
theorem dX8_init_8 : decode cX8_init 8 = .ok (.dup, 1) := by decide +kernel
theorem dX8_init_9 : decode cX8_init 9 = .ok (.invokespecial 9, 3) := by decide +kernel
theorem dX8_init_12 : decode cX8_init 12 = .ok (.putfield 10, 3) := by decide +kernel
theorem dX8_init_15 : decode cX8_init 15 = .ok (.aload_n 0, 1) := by decide +kernel
theorem dX8_init_16 : decode cX8_init 16 = .ok (.new 7, 3) := by decide +kernel
theorem dX8_init_19 : decode cX8_init 19 = .ok (.dup, 1) := by decide +kernel
theorem dX8_init_20 : decode cX8_init 20 = .ok (.invokespecial 9, 3) := by decide +kernel
theorem dX8_init_23 : decode cX8_init 23 = .ok (.putfield 16, 3) := by decide +kernel
theorem dX8_init_26 : decode cX8_init 26 = .ok (.aload_n 0, 1) := by decide +kernel
theorem dX8_init_27 : decode cX8_init 27 = .ok (.new 19, 3) := by decide +kernel
theorem dX8_init_30 : decode cX8_init 30 = .ok (.dup, 1) := by decide +kernel
theorem dX8_init_31 : decode cX8_init 31 = .ok (.invokespecial 21, 3) := by decide +kernel
theorem dX8_init_34 : decode cX8_init 34 = .ok (.putfield 22, 3) := by decide +kernel
theorem dX8_init_37 : decode cX8_init 37 = .ok (.aload_n 0, 1) := by decide +kernel
theorem dX8_init_38 : decode cX8_init 38 = .ok (.iconst 4, 1) := by decide +kernel
theorem dX8_init_39 : decode cX8_init 39 = .ok (.anewarray 26, 3) := by decide +kernel
theorem dX8_init_42 : decode cX8_init 42 = .ok (.putfield 28, 3) := by decide +kernel
theorem dX8_init_45 : decode cX8_init 45 = .ok (.aload_n 0, 1) := by decide +kernel
theorem dX8_init_46 : decode cX8_init 46 = .ok (.bipush 16, 2) := by decide +kernel
theorem dX8_init_48 : decode cX8_init 48 = .ok (.newarray .int, 2) := by decide +kernel
theorem dX8_init_50 : decode cX8_init 50 = .ok (.putfield 32, 3) := by decide +kernel
theorem dX8_init_53 : decode cX8_init 53 = .ok (.aload_n 0, 1) := by decide +kernel
theorem dX8_init_54 : decode cX8_init 54 = .ok (.bipush 18, 2) := by decide +kernel
theorem dX8_init_56 : decode cX8_init 56 = .ok (.newarray .int, 2) := by decide +kernel
theorem dX8_init_58 : decode cX8_init 58 = .ok (.putfield 36, 3) := by decide +kernel
theorem dX8_init_61 : decode cX8_init 61 = .ok (.aload_n 0, 1) := by decide +kernel
theorem dX8_init_62 : decode cX8_init 62 = .ok (.new 39, 3) := by decide +kernel
theorem dX8_init_65 : decode cX8_init 65 = .ok (.dup, 1) := by decide +kernel
theorem dX8_init_66 : decode cX8_init 66 = .ok (.invokespecial 41, 3) := by decide +kernel
theorem dX8_init_69 : decode cX8_init 69 = .ok (.putfield 42, 3) := by decide +kernel
theorem dX8_init_72 : decode cX8_init 72 = .ok (.aload_n 0, 1) := by decide +kernel
theorem dX8_init_73 : decode cX8_init 73 = .ok (.new 46, 3) := by decide +kernel
theorem dX8_init_76 : decode cX8_init 76 = .ok (.dup, 1) := by decide +kernel
theorem dX8_init_77 : decode cX8_init 77 = .ok (.invokespecial 48, 3) := by decide +kernel
theorem dX8_init_80 : decode cX8_init 80 = .ok (.putfield 49, 3) := by decide +kernel
theorem dX8_init_83 : decode cX8_init 83 = .ok (.aload_n 0, 1) := by decide +kernel
theorem dX8_init_84 : decode cX8_init 84 = .ok (.new 53, 3) := by decide +kernel
theorem dX8_init_87 : decode cX8_init 87 = .ok (.dup, 1) := by decide +kernel
theorem dX8_init_88 : decode cX8_init 88 = .ok (.invokespecial 55, 3) := by decide +kernel
theorem dX8_init_91 : decode cX8_init 91 = .ok (.putfield 56, 3) := by decide +kernel
theorem dX8_init_94 : decode cX8_init 94 = .ok (.aload_n 0, 1) := by decide +kernel
theorem dX8_init_95 : decode cX8_init 95 = .ok (.new 60, 3) := by decide +kernel
theorem dX8_init_98 : decode cX8_init 98 = .ok (.dup, 1) := by decide +kernel
theorem dX8_init_99 : decode cX8_init 99 = .ok (.invokespecial 62, 3) := by decide +kernel
theorem dX8_init_102 : decode cX8_init 102 = .ok (.putfield 63, 3) := by decide +kernel
theorem dX8_init_105 : decode cX8_init 105 = .ok (.aload_n 0, 1) := by decide +kernel
theorem dX8_init_106 : decode cX8_init 106 = .ok (.new 67, 3) := by decide +kernel
theorem dX8_init_109 : decode cX8_init 109 = .ok (.dup, 1) := by decide +kernel
theorem dX8_init_110 : decode cX8_init 110 = .ok (.invokespecial 69, 3) := by decide +kernel
theorem dX8_init_113 : decode cX8_init 113 = .ok (.putfield 70, 3) := by decide +kernel
theorem dX8_init_116 : decode cX8_init 116 = .ok (.iconst 0, 1) := by decide +kernel
theorem dX8_init_117 : decode cX8_init 117 = .ok (.istore_n 1, 1) := by decide +kernel
theorem dX8_init_118 : decode cX8_init 118 = .ok (.iload_n 1, 1) := by decide +kernel
theorem dX8_init_119 : decode cX8_init 119 = .ok (.iconst 4, 1) := by decide +kernel
theorem dX8_init_120 : decode cX8_init 120 = .ok (.if_icmp .ge 22, 3) := by decide +kernel
theorem dX8_init_123 : decode cX8_init 123 = .ok (.aload_n 0, 1) := by decide +kernel
theorem dX8_init_124 : decode cX8_init 124 = .ok (.getfield 28, 3) := by decide +kernel
theorem dX8_init_127 : decode cX8_init 127 = .ok (.iload_n 1, 1) := by decide +kernel
theorem dX8_init_128 : decode cX8_init 128 = .ok (.new 26, 3) := by decide +kernel
theorem dX8_init_131 : decode cX8_init 131 = .ok (.dup, 1) := by decide +kernel
theorem dX8_init_132 : decode cX8_init 132 = .ok (.invokespecial 74, 3) := by decide +kernel
theorem dX8_init_135 : decode cX8_init 135 = .ok (.aastore, 1) := by decide +kernel
theorem dX8_init_136 : decode cX8_init 136 = .ok (.iinc 1 1, 3) := by decide +kernel
theorem dX8_init_139 : decode cX8_init 139 = .ok (.goto (-21), 3) := by decide +kernel
theorem dX8_init_142 : decode cX8_init 142 = .ok (.return_, 1) := by decide +kernel
theorem dX8_type_0 : decode cX8_type 0 = .ok (.iload_n 3, 1) := by decide +kernel
theorem dX8_type_1 : decode cX8_type 1 = .ok (.iconst 1, 1) := by decide +kernel
theorem dX8_type_2 : decode cX8_type 2 = .ok (.bipush 8, 2) := by decide +kernel
theorem dX8_type_4 : decode cX8_type 4 = .ok (.invokestatic 75, 3) := by decide +kernel
theorem dX8_type_7 : decode cX8_type 7 = .ok (.ifCond .ne 5, 3) := by decide +kernel
theorem dX8_type_10 : decode cX8_type 10 = .ok (.iconst (-1), 1) := by decide +kernel
theorem dX8_type_11 : decode cX8_type 11 = .ok (.ireturn, 1) := by decide +kernel
theorem dX8_type_12 : decode cX8_type 12 = .ok (.iconst 0, 1) := by decide +kernel
theorem dX8_type_13 : decode cX8_type 13 = .ok (.istore 4, 2) := by decide +kernel
theorem dX8_type_15 : decode cX8_type 15 = .ok (.iload 4, 2) := by decide +kernel
theorem dX8_type_17 : decode cX8_type 17 = .ok (.iload_n 3, 1) := by decide +kernel
theorem dX8_type_18 : decode cX8_type 18 = .ok (.if_icmp .ge 27, 3) := by decide +kernel
theorem dX8_type_21 : decode cX8_type 21 = .ok (.lload_n 1, 1) := by decide +kernel
theorem dX8_type_22 : decode cX8_type 22 = .ok (.iload 4, 2) := by decide +kernel
theorem dX8_type_24 : decode cX8_type 24 = .ok (.invokestatic 79, 3) := by decide +kernel
theorem dX8_type_27 : decode cX8_type 27 = .ok (.bipush 32, 2) := by decide +kernel
theorem dX8_type_29 : decode cX8_type 29 = .ok (.bipush 126, 2) := by decide +kernel
theorem dX8_type_31 : decode cX8_type 31 = .ok (.invokestatic 75, 3) := by decide +kernel
theorem dX8_type_34 : decode cX8_type 34 = .ok (.ifCond .ne 5, 3) := by decide +kernel
theorem dX8_type_37 : decode cX8_type 37 = .ok (.iconst (-1), 1) := by decide +kernel
theorem dX8_type_38 : decode cX8_type 38 = .ok (.ireturn, 1) := by decide +kernel
theorem dX8_type_39 : decode cX8_type 39 = .ok (.iinc 4 1, 3) := by decide +kernel
theorem dX8_type_42 : decode cX8_type 42 = .ok (.goto (-27), 3) := by decide +kernel
theorem dX8_type_45 : decode cX8_type 45 = .ok (.aload_n 0, 1) := by decide +kernel
theorem dX8_type_46 : decode cX8_type 46 = .ok (.getfield 22, 3) := by decide +kernel
theorem dX8_type_49 : decode cX8_type 49 = .ok (.getfield 83, 3) := by decide +kernel
theorem dX8_type_52 : decode cX8_type 52 = .ok (.iload_n 3, 1) := by decide +kernel
theorem dX8_type_53 : decode cX8_type 53 = .ok (.iadd, 1) := by decide +kernel
theorem dX8_type_54 : decode cX8_type 54 = .ok (.bipush 24, 2) := by decide +kernel
theorem dX8_type_56 : decode cX8_type 56 = .ok (.if_icmp .le 6, 3) := by decide +kernel
theorem dX8_type_59 : decode cX8_type 59 = .ok (.bipush (-3), 2) := by decide +kernel
theorem dX8_type_61 : decode cX8_type 61 = .ok (.ireturn, 1) := by decide +kernel
theorem dX8_type_62 : decode cX8_type 62 = .ok (.iload_n 3, 1) := by decide +kernel
theorem dX8_type_63 : decode cX8_type 63 = .ok (.iconst 1, 1) := by decide +kernel
theorem dX8_type_64 : decode cX8_type 64 = .ok (.isub, 1) := by decide +kernel
theorem dX8_type_65 : decode cX8_type 65 = .ok (.istore 4, 2) := by decide +kernel
theorem dX8_type_67 : decode cX8_type 67 = .ok (.iload 4, 2) := by decide +kernel
theorem dX8_type_69 : decode cX8_type 69 = .ok (.ifCond .lt 22, 3) := by decide +kernel
theorem dX8_type_72 : decode cX8_type 72 = .ok (.aload_n 0, 1) := by decide +kernel
theorem dX8_type_73 : decode cX8_type 73 = .ok (.getfield 22, 3) := by decide +kernel
theorem dX8_type_76 : decode cX8_type 76 = .ok (.lload_n 1, 1) := by decide +kernel
theorem dX8_type_77 : decode cX8_type 77 = .ok (.iload 4, 2) := by decide +kernel
theorem dX8_type_79 : decode cX8_type 79 = .ok (.invokestatic 79, 3) := by decide +kernel
theorem dX8_type_82 : decode cX8_type 82 = .ok (.invokevirtual 87, 3) := by decide +kernel
theorem dX8_type_85 : decode cX8_type 85 = .ok (.iinc 4 (-1), 3) := by decide +kernel
theorem dX8_type_88 : decode cX8_type 88 = .ok (.goto (-21), 3) := by decide +kernel
theorem dX8_type_91 : decode cX8_type 91 = .ok (.aload_n 0, 1) := by decide +kernel
theorem dX8_type_92 : decode cX8_type 92 = .ok (.getfield 22, 3) := by decide +kernel
theorem dX8_type_95 : decode cX8_type 95 = .ok (.getfield 83, 3) := by decide +kernel
theorem dX8_type_98 : decode cX8_type 98 = .ok (.ireturn, 1) := by decide +kernel
theorem dX8_tale_0 : decode cX8_tale 0 = .ok (.aload_n 0, 1) := by decide +kernel
theorem dX8_tale_1 : decode cX8_tale 1 = .ok (.getfield 22, 3) := by decide +kernel
theorem dX8_tale_4 : decode cX8_tale 4 = .ok (.aload_n 0, 1) := by decide +kernel
theorem dX8_tale_5 : decode cX8_tale 5 = .ok (.getfield 32, 3) := by decide +kernel
theorem dX8_tale_8 : decode cX8_tale 8 = .ok (.invokevirtual 91, 3) := by decide +kernel
theorem dX8_tale_11 : decode cX8_tale 11 = .ok (.istore_n 1, 1) := by decide +kernel
theorem dX8_tale_12 : decode cX8_tale 12 = .ok (.aload_n 0, 1) := by decide +kernel
theorem dX8_tale_13 : decode cX8_tale 13 = .ok (.getfield 22, 3) := by decide +kernel
theorem dX8_tale_16 : decode cX8_tale 16 = .ok (.iconst 0, 1) := by decide +kernel
theorem dX8_tale_17 : decode cX8_tale 17 = .ok (.putfield 83, 3) := by decide +kernel
theorem dX8_tale_20 : decode cX8_tale 20 = .ok (.iload_n 1, 1) := by decide +kernel
theorem dX8_tale_21 : decode cX8_tale 21 = .ok (.ifCond .ge 5, 3) := by decide +kernel
theorem dX8_tale_24 : decode cX8_tale 24 = .ok (.iload_n 1, 1) := by decide +kernel
theorem dX8_tale_25 : decode cX8_tale 25 = .ok (.ireturn, 1) := by decide +kernel
theorem dX8_tale_26 : decode cX8_tale 26 = .ok (.aload_n 0, 1) := by decide +kernel
theorem dX8_tale_27 : decode cX8_tale 27 = .ok (.getfield 10, 3) := by decide +kernel
theorem dX8_tale_30 : decode cX8_tale 30 = .ok (.getfield 95, 3) := by decide +kernel
theorem dX8_tale_33 : decode cX8_tale 33 = .ok (.bipush 8, 2) := by decide +kernel
theorem dX8_tale_35 : decode cX8_tale 35 = .ok (.if_icmp .lt 8, 3) := by decide +kernel
theorem dX8_tale_38 : decode cX8_tale 38 = .ok (.bipush (-3), 2) := by decide +kernel
theorem dX8_tale_40 : decode cX8_tale 40 = .ok (.goto 15, 3) := by decide +kernel
theorem dX8_tale_43 : decode cX8_tale 43 = .ok (.aload_n 0, 1) := by decide +kernel
theorem dX8_tale_44 : decode cX8_tale 44 = .ok (.getfield 10, 3) := by decide +kernel
theorem dX8_tale_47 : decode cX8_tale 47 = .ok (.aload_n 0, 1) := by decide +kernel
theorem dX8_tale_48 : decode cX8_tale 48 = .ok (.getfield 32, 3) := by decide +kernel
theorem dX8_tale_51 : decode cX8_tale 51 = .ok (.iload_n 1, 1) := by decide +kernel
theorem dX8_tale_52 : decode cX8_tale 52 = .ok (.invokevirtual 98, 3) := by decide +kernel
theorem dX8_tale_55 : decode cX8_tale 55 = .ok (.ireturn, 1) := by decide +kernel
theorem dX8_change_0 : decode cX8_change 0 = .ok (.aload_n 0, 1) := by decide +kernel
theorem dX8_change_1 : decode cX8_change 1 = .ok (.getfield 10, 3) := by decide +kernel
theorem dX8_change_4 : decode cX8_change 4 = .ok (.iload_n 1, 1) := by decide +kernel
theorem dX8_change_5 : decode cX8_change 5 = .ok (.iload_n 2, 1) := by decide +kernel
theorem dX8_change_6 : decode cX8_change 6 = .ok (.invokevirtual 102, 3) := by decide +kernel
theorem dX8_change_9 : decode cX8_change 9 = .ok (.ifCond .eq 13, 3) := by decide +kernel
theorem dX8_change_12 : decode cX8_change 12 = .ok (.iload_n 3, 1) := by decide +kernel
theorem dX8_change_13 : decode cX8_change 13 = .ok (.iconst 0, 1) := by decide +kernel
theorem dX8_change_14 : decode cX8_change 14 = .ok (.bipush 9, 2) := by decide +kernel
theorem dX8_change_16 : decode cX8_change 16 = .ok (.invokestatic 75, 3) := by decide +kernel
theorem dX8_change_19 : decode cX8_change 19 = .ok (.ifCond .ne 5, 3) := by decide +kernel
theorem dX8_change_22 : decode cX8_change 22 = .ok (.iconst (-1), 1) := by decide +kernel
theorem dX8_change_23 : decode cX8_change 23 = .ok (.ireturn, 1) := by decide +kernel
theorem dX8_change_24 : decode cX8_change 24 = .ok (.aload_n 0, 1) := by decide +kernel
theorem dX8_change_25 : decode cX8_change 25 = .ok (.getfield 10, 3) := by decide +kernel
theorem dX8_change_28 : decode cX8_change 28 = .ok (.getfield 106, 3) := by decide +kernel
theorem dX8_change_31 : decode cX8_change 31 = .ok (.iload_n 1, 1) := by decide +kernel
theorem dX8_change_32 : decode cX8_change 32 = .ok (.if_icmp .ne 6, 3) := by decide +kernel
theorem dX8_change_35 : decode cX8_change 35 = .ok (.bipush (-2), 2) := by decide +kernel
theorem dX8_change_37 : decode cX8_change 37 = .ok (.ireturn, 1) := by decide +kernel
theorem dX8_change_38 : decode cX8_change 38 = .ok (.aload_n 0, 1) := by decide +kernel
theorem dX8_change_39 : decode cX8_change 39 = .ok (.getfield 10, 3) := by decide +kernel
theorem dX8_change_42 : decode cX8_change 42 = .ok (.getfield 109, 3) := by decide +kernel
theorem dX8_change_45 : decode cX8_change 45 = .ok (.iload_n 1, 1) := by decide +kernel
theorem dX8_change_46 : decode cX8_change 46 = .ok (.aaload, 1) := by decide +kernel
theorem dX8_change_47 : decode cX8_change 47 = .ok (.iload_n 2, 1) := by decide +kernel
theorem dX8_change_48 : decode cX8_change 48 = .ok (.iaload, 1) := by decide +kernel
theorem dX8_change_49 : decode cX8_change 49 = .ok (.istore 4, 2) := by decide +kernel
theorem dX8_change_51 : decode cX8_change 51 = .ok (.aload_n 0, 1) := by decide +kernel
theorem dX8_change_52 : decode cX8_change 52 = .ok (.getfield 10, 3) := by decide +kernel
theorem dX8_change_55 : decode cX8_change 55 = .ok (.getfield 109, 3) := by decide +kernel
theorem dX8_change_58 : decode cX8_change 58 = .ok (.iload_n 1, 1) := by decide +kernel
theorem dX8_change_59 : decode cX8_change 59 = .ok (.aaload, 1) := by decide +kernel
theorem dX8_change_60 : decode cX8_change 60 = .ok (.iload_n 2, 1) := by decide +kernel
theorem dX8_change_61 : decode cX8_change 61 = .ok (.iload_n 3, 1) := by decide +kernel
theorem dX8_change_62 : decode cX8_change 62 = .ok (.iastore, 1) := by decide +kernel
theorem dX8_change_63 : decode cX8_change 63 = .ok (.iload 4, 2) := by decide +kernel
theorem dX8_change_65 : decode cX8_change 65 = .ok (.ireturn, 1) := by decide +kernel
theorem dX8_teller_0 : decode cX8_teller 0 = .ok (.iload_n 1, 1) := by decide +kernel
theorem dX8_teller_1 : decode cX8_teller 1 = .ok (.iconst 0, 1) := by decide +kernel
theorem dX8_teller_2 : decode cX8_teller 2 = .ok (.iconst 3, 1) := by decide +kernel
theorem dX8_teller_3 : decode cX8_teller 3 = .ok (.invokestatic 75, 3) := by decide +kernel
theorem dX8_teller_6 : decode cX8_teller 6 = .ok (.ifCond .ne 5, 3) := by decide +kernel
theorem dX8_teller_9 : decode cX8_teller 9 = .ok (.iconst (-1), 1) := by decide +kernel
theorem dX8_teller_10 : decode cX8_teller 10 = .ok (.ireturn, 1) := by decide +kernel
theorem dX8_teller_11 : decode cX8_teller 11 = .ok (.aload_n 0, 1) := by decide +kernel
theorem dX8_teller_12 : decode cX8_teller 12 = .ok (.getfield 10, 3) := by decide +kernel
theorem dX8_teller_15 : decode cX8_teller 15 = .ok (.getfield 113, 3) := by decide +kernel
theorem dX8_teller_18 : decode cX8_teller 18 = .ok (.iconst 4, 1) := by decide +kernel
theorem dX8_teller_19 : decode cX8_teller 19 = .ok (.if_icmp .lt 6, 3) := by decide +kernel
theorem dX8_teller_22 : decode cX8_teller 22 = .ok (.bipush (-3), 2) := by decide +kernel
theorem dX8_teller_24 : decode cX8_teller 24 = .ok (.ireturn, 1) := by decide +kernel
theorem dX8_teller_25 : decode cX8_teller 25 = .ok (.aload_n 0, 1) := by decide +kernel
theorem dX8_teller_26 : decode cX8_teller 26 = .ok (.getfield 10, 3) := by decide +kernel
theorem dX8_teller_29 : decode cX8_teller 29 = .ok (.getfield 116, 3) := by decide +kernel
theorem dX8_teller_32 : decode cX8_teller 32 = .ok (.aload_n 0, 1) := by decide +kernel
theorem dX8_teller_33 : decode cX8_teller 33 = .ok (.getfield 10, 3) := by decide +kernel
theorem dX8_teller_36 : decode cX8_teller 36 = .ok (.getfield 113, 3) := by decide +kernel
theorem dX8_teller_39 : decode cX8_teller 39 = .ok (.iload_n 1, 1) := by decide +kernel
theorem dX8_teller_40 : decode cX8_teller 40 = .ok (.iastore, 1) := by decide +kernel
theorem dX8_teller_41 : decode cX8_teller 41 = .ok (.aload_n 0, 1) := by decide +kernel
theorem dX8_teller_42 : decode cX8_teller 42 = .ok (.getfield 10, 3) := by decide +kernel
theorem dX8_teller_45 : decode cX8_teller 45 = .ok (.dup, 1) := by decide +kernel
theorem dX8_teller_46 : decode cX8_teller 46 = .ok (.getfield 113, 3) := by decide +kernel
theorem dX8_teller_49 : decode cX8_teller 49 = .ok (.dup_x1, 1) := by decide +kernel
theorem dX8_teller_50 : decode cX8_teller 50 = .ok (.iconst 1, 1) := by decide +kernel
theorem dX8_teller_51 : decode cX8_teller 51 = .ok (.iadd, 1) := by decide +kernel
theorem dX8_teller_52 : decode cX8_teller 52 = .ok (.putfield 113, 3) := by decide +kernel
theorem dX8_teller_55 : decode cX8_teller 55 = .ok (.ireturn, 1) := by decide +kernel
theorem dX8_spinner_0 : decode cX8_spinner 0 = .ok (.aload_n 0, 1) := by decide +kernel
theorem dX8_spinner_1 : decode cX8_spinner 1 = .ok (.getfield 10, 3) := by decide +kernel
theorem dX8_spinner_4 : decode cX8_spinner 4 = .ok (.getfield 119, 3) := by decide +kernel
theorem dX8_spinner_7 : decode cX8_spinner 7 = .ok (.iconst 4, 1) := by decide +kernel
theorem dX8_spinner_8 : decode cX8_spinner 8 = .ok (.if_icmp .lt 8, 3) := by decide +kernel
theorem dX8_spinner_11 : decode cX8_spinner 11 = .ok (.bipush (-3), 2) := by decide +kernel
theorem dX8_spinner_13 : decode cX8_spinner 13 = .ok (.goto 17, 3) := by decide +kernel
theorem dX8_spinner_16 : decode cX8_spinner 16 = .ok (.aload_n 0, 1) := by decide +kernel
theorem dX8_spinner_17 : decode cX8_spinner 17 = .ok (.getfield 10, 3) := by decide +kernel
theorem dX8_spinner_20 : decode cX8_spinner 20 = .ok (.dup, 1) := by decide +kernel
theorem dX8_spinner_21 : decode cX8_spinner 21 = .ok (.getfield 119, 3) := by decide +kernel
theorem dX8_spinner_24 : decode cX8_spinner 24 = .ok (.dup_x1, 1) := by decide +kernel
theorem dX8_spinner_25 : decode cX8_spinner 25 = .ok (.iconst 1, 1) := by decide +kernel
theorem dX8_spinner_26 : decode cX8_spinner 26 = .ok (.iadd, 1) := by decide +kernel
theorem dX8_spinner_27 : decode cX8_spinner 27 = .ok (.putfield 119, 3) := by decide +kernel
theorem dX8_spinner_30 : decode cX8_spinner 30 = .ok (.ireturn, 1) := by decide +kernel
theorem dX8_memory_0 : decode cX8_memory 0 = .ok (.iload_n 1, 1) := by decide +kernel
theorem dX8_memory_1 : decode cX8_memory 1 = .ok (.iconst 1, 1) := by decide +kernel
theorem dX8_memory_2 : decode cX8_memory 2 = .ok (.bipush 99, 2) := by decide +kernel
theorem dX8_memory_4 : decode cX8_memory 4 = .ok (.invokestatic 75, 3) := by decide +kernel
theorem dX8_memory_7 : decode cX8_memory 7 = .ok (.ifCond .ne 5, 3) := by decide +kernel
theorem dX8_memory_10 : decode cX8_memory 10 = .ok (.iconst (-1), 1) := by decide +kernel
theorem dX8_memory_11 : decode cX8_memory 11 = .ok (.ireturn, 1) := by decide +kernel
theorem dX8_memory_12 : decode cX8_memory 12 = .ok (.aload_n 0, 1) := by decide +kernel
theorem dX8_memory_13 : decode cX8_memory 13 = .ok (.getfield 10, 3) := by decide +kernel
theorem dX8_memory_16 : decode cX8_memory 16 = .ok (.getfield 122, 3) := by decide +kernel
theorem dX8_memory_19 : decode cX8_memory 19 = .ok (.istore_n 2, 1) := by decide +kernel
theorem dX8_memory_20 : decode cX8_memory 20 = .ok (.aload_n 0, 1) := by decide +kernel
theorem dX8_memory_21 : decode cX8_memory 21 = .ok (.getfield 10, 3) := by decide +kernel
theorem dX8_memory_24 : decode cX8_memory 24 = .ok (.iload_n 1, 1) := by decide +kernel
theorem dX8_memory_25 : decode cX8_memory 25 = .ok (.putfield 122, 3) := by decide +kernel
theorem dX8_memory_28 : decode cX8_memory 28 = .ok (.iload_n 2, 1) := by decide +kernel
theorem dX8_memory_29 : decode cX8_memory 29 = .ok (.ireturn, 1) := by decide +kernel
theorem dX8_told_0 : decode cX8_told 0 = .ok (.iload_n 2, 1) := by decide +kernel
theorem dX8_told_1 : decode cX8_told 1 = .ok (.iconst (-1), 1) := by decide +kernel
theorem dX8_told_2 : decode cX8_told 2 = .ok (.if_icmp .ne 24, 3) := by decide +kernel
theorem dX8_told_5 : decode cX8_told 5 = .ok (.aload_n 0, 1) := by decide +kernel
theorem dX8_told_6 : decode cX8_told 6 = .ok (.getfield 10, 3) := by decide +kernel
theorem dX8_told_9 : decode cX8_told 9 = .ok (.iload_n 1, 1) := by decide +kernel
theorem dX8_told_10 : decode cX8_told 10 = .ok (.invokevirtual 125, 3) := by decide +kernel
theorem dX8_told_13 : decode cX8_told 13 = .ok (.ifCond .eq 13, 3) := by decide +kernel
theorem dX8_told_16 : decode cX8_told 16 = .ok (.aload_n 0, 1) := by decide +kernel
theorem dX8_told_17 : decode cX8_told 17 = .ok (.getfield 10, 3) := by decide +kernel
theorem dX8_told_20 : decode cX8_told 20 = .ok (.getfield 129, 3) := by decide +kernel
theorem dX8_told_23 : decode cX8_told 23 = .ok (.iload_n 1, 1) := by decide +kernel
theorem dX8_told_24 : decode cX8_told 24 = .ok (.iaload, 1) := by decide +kernel
theorem dX8_told_25 : decode cX8_told 25 = .ok (.ireturn, 1) := by decide +kernel
theorem dX8_told_26 : decode cX8_told 26 = .ok (.aload_n 0, 1) := by decide +kernel
theorem dX8_told_27 : decode cX8_told 27 = .ok (.getfield 10, 3) := by decide +kernel
theorem dX8_told_30 : decode cX8_told 30 = .ok (.iload_n 1, 1) := by decide +kernel
theorem dX8_told_31 : decode cX8_told 31 = .ok (.iload_n 2, 1) := by decide +kernel
theorem dX8_told_32 : decode cX8_told 32 = .ok (.invokevirtual 102, 3) := by decide +kernel
theorem dX8_told_35 : decode cX8_told 35 = .ok (.ifCond .eq 17, 3) := by decide +kernel
theorem dX8_told_38 : decode cX8_told 38 = .ok (.aload_n 0, 1) := by decide +kernel
theorem dX8_told_39 : decode cX8_told 39 = .ok (.getfield 10, 3) := by decide +kernel
theorem dX8_told_42 : decode cX8_told 42 = .ok (.getfield 109, 3) := by decide +kernel
theorem dX8_told_45 : decode cX8_told 45 = .ok (.iload_n 1, 1) := by decide +kernel
theorem dX8_told_46 : decode cX8_told 46 = .ok (.aaload, 1) := by decide +kernel
theorem dX8_told_47 : decode cX8_told 47 = .ok (.iload_n 2, 1) := by decide +kernel
theorem dX8_told_48 : decode cX8_told 48 = .ok (.iaload, 1) := by decide +kernel
theorem dX8_told_49 : decode cX8_told 49 = .ok (.goto 4, 3) := by decide +kernel
theorem dX8_told_52 : decode cX8_told 52 = .ok (.iconst (-1), 1) := by decide +kernel
theorem dX8_told_53 : decode cX8_told 53 = .ok (.ireturn, 1) := by decide +kernel
theorem dX8_tells_0 : decode cX8_tells 0 = .ok (.aload_n 0, 1) := by decide +kernel
theorem dX8_tells_1 : decode cX8_tells 1 = .ok (.getfield 10, 3) := by decide +kernel
theorem dX8_tells_4 : decode cX8_tells 4 = .ok (.iload_n 1, 1) := by decide +kernel
theorem dX8_tells_5 : decode cX8_tells 5 = .ok (.invokevirtual 132, 3) := by decide +kernel
theorem dX8_tells_8 : decode cX8_tells 8 = .ok (.ifCond .eq 15, 3) := by decide +kernel
theorem dX8_tells_11 : decode cX8_tells 11 = .ok (.aload_n 0, 1) := by decide +kernel
theorem dX8_tells_12 : decode cX8_tells 12 = .ok (.getfield 10, 3) := by decide +kernel
theorem dX8_tells_15 : decode cX8_tells 15 = .ok (.iload_n 2, 1) := by decide +kernel
theorem dX8_tells_16 : decode cX8_tells 16 = .ok (.iload_n 3, 1) := by decide +kernel
theorem dX8_tells_17 : decode cX8_tells 17 = .ok (.invokevirtual 102, 3) := by decide +kernel
theorem dX8_tells_20 : decode cX8_tells 20 = .ok (.ifCond .ne 5, 3) := by decide +kernel
theorem dX8_tells_23 : decode cX8_tells 23 = .ok (.iconst (-1), 1) := by decide +kernel
theorem dX8_tells_24 : decode cX8_tells 24 = .ok (.ireturn, 1) := by decide +kernel
theorem dX8_tells_25 : decode cX8_tells 25 = .ok (.aload_n 0, 1) := by decide +kernel
theorem dX8_tells_26 : decode cX8_tells 26 = .ok (.getfield 10, 3) := by decide +kernel
theorem dX8_tells_29 : decode cX8_tells 29 = .ok (.iload_n 1, 1) := by decide +kernel
theorem dX8_tells_30 : decode cX8_tells 30 = .ok (.iload_n 2, 1) := by decide +kernel
theorem dX8_tells_31 : decode cX8_tells 31 = .ok (.iload_n 3, 1) := by decide +kernel
theorem dX8_tells_32 : decode cX8_tells 32 = .ok (.invokevirtual 135, 3) := by decide +kernel
theorem dX8_tells_35 : decode cX8_tells 35 = .ok (.ireturn, 1) := by decide +kernel
theorem dX8_yards_0 : decode cX8_yards 0 = .ok (.aload_n 0, 1) := by decide +kernel
theorem dX8_yards_1 : decode cX8_yards 1 = .ok (.getfield 10, 3) := by decide +kernel
theorem dX8_yards_4 : decode cX8_yards 4 = .ok (.iload_n 1, 1) := by decide +kernel
theorem dX8_yards_5 : decode cX8_yards 5 = .ok (.invokevirtual 139, 3) := by decide +kernel
theorem dX8_yards_8 : decode cX8_yards 8 = .ok (.ifCond .eq 24, 3) := by decide +kernel
theorem dX8_yards_11 : decode cX8_yards 11 = .ok (.iload_n 2, 1) := by decide +kernel
theorem dX8_yards_12 : decode cX8_yards 12 = .ok (.invokestatic 142, 3) := by decide +kernel
theorem dX8_yards_15 : decode cX8_yards 15 = .ok (.ifCond .eq 17, 3) := by decide +kernel
theorem dX8_yards_18 : decode cX8_yards 18 = .ok (.aload_n 0, 1) := by decide +kernel
theorem dX8_yards_19 : decode cX8_yards 19 = .ok (.getfield 10, 3) := by decide +kernel
theorem dX8_yards_22 : decode cX8_yards 22 = .ok (.getfield 145, 3) := by decide +kernel
theorem dX8_yards_25 : decode cX8_yards 25 = .ok (.iload_n 1, 1) := by decide +kernel
theorem dX8_yards_26 : decode cX8_yards 26 = .ok (.aaload, 1) := by decide +kernel
theorem dX8_yards_27 : decode cX8_yards 27 = .ok (.iload_n 2, 1) := by decide +kernel
theorem dX8_yards_28 : decode cX8_yards 28 = .ok (.iaload, 1) := by decide +kernel
theorem dX8_yards_29 : decode cX8_yards 29 = .ok (.goto 4, 3) := by decide +kernel
theorem dX8_yards_32 : decode cX8_yards 32 = .ok (.iconst (-1), 1) := by decide +kernel
theorem dX8_yards_33 : decode cX8_yards 33 = .ok (.ireturn, 1) := by decide +kernel
theorem dX8_use_0 : decode cX8_use 0 = .ok (.aload_n 0, 1) := by decide +kernel
theorem dX8_use_1 : decode cX8_use 1 = .ok (.getfield 10, 3) := by decide +kernel
theorem dX8_use_4 : decode cX8_use 4 = .ok (.iload_n 1, 1) := by decide +kernel
theorem dX8_use_5 : decode cX8_use 5 = .ok (.invokevirtual 139, 3) := by decide +kernel
theorem dX8_use_8 : decode cX8_use 8 = .ok (.ifCond .eq 21, 3) := by decide +kernel
theorem dX8_use_11 : decode cX8_use 11 = .ok (.iload_n 2, 1) := by decide +kernel
theorem dX8_use_12 : decode cX8_use 12 = .ok (.invokestatic 142, 3) := by decide +kernel
theorem dX8_use_15 : decode cX8_use 15 = .ok (.ifCond .eq 14, 3) := by decide +kernel
theorem dX8_use_18 : decode cX8_use 18 = .ok (.iload_n 3, 1) := by decide +kernel
theorem dX8_use_19 : decode cX8_use 19 = .ok (.iconst 1, 1) := by decide +kernel
theorem dX8_use_20 : decode cX8_use 20 = .ok (.sipush 999, 3) := by decide +kernel
theorem dX8_use_23 : decode cX8_use 23 = .ok (.invokestatic 75, 3) := by decide +kernel
theorem dX8_use_26 : decode cX8_use 26 = .ok (.ifCond .ne 5, 3) := by decide +kernel
theorem dX8_use_29 : decode cX8_use 29 = .ok (.iconst (-1), 1) := by decide +kernel
theorem dX8_use_30 : decode cX8_use 30 = .ok (.ireturn, 1) := by decide +kernel
theorem dX8_use_31 : decode cX8_use 31 = .ok (.aload_n 0, 1) := by decide +kernel
theorem dX8_use_32 : decode cX8_use 32 = .ok (.getfield 10, 3) := by decide +kernel
theorem dX8_use_35 : decode cX8_use 35 = .ok (.getfield 145, 3) := by decide +kernel
theorem dX8_use_38 : decode cX8_use 38 = .ok (.iload_n 1, 1) := by decide +kernel
theorem dX8_use_39 : decode cX8_use 39 = .ok (.aaload, 1) := by decide +kernel
theorem dX8_use_40 : decode cX8_use 40 = .ok (.iload_n 2, 1) := by decide +kernel
theorem dX8_use_41 : decode cX8_use 41 = .ok (.iaload, 1) := by decide +kernel
theorem dX8_use_42 : decode cX8_use 42 = .ok (.iload_n 3, 1) := by decide +kernel
theorem dX8_use_43 : decode cX8_use 43 = .ok (.if_icmp .ge 6, 3) := by decide +kernel
theorem dX8_use_46 : decode cX8_use 46 = .ok (.bipush (-2), 2) := by decide +kernel
theorem dX8_use_48 : decode cX8_use 48 = .ok (.ireturn, 1) := by decide +kernel
theorem dX8_use_49 : decode cX8_use 49 = .ok (.aload_n 0, 1) := by decide +kernel
theorem dX8_use_50 : decode cX8_use 50 = .ok (.getfield 10, 3) := by decide +kernel
theorem dX8_use_53 : decode cX8_use 53 = .ok (.getfield 145, 3) := by decide +kernel
theorem dX8_use_56 : decode cX8_use 56 = .ok (.iload_n 1, 1) := by decide +kernel
theorem dX8_use_57 : decode cX8_use 57 = .ok (.aaload, 1) := by decide +kernel
theorem dX8_use_58 : decode cX8_use 58 = .ok (.iload_n 2, 1) := by decide +kernel
theorem dX8_use_59 : decode cX8_use 59 = .ok (.dup2, 1) := by decide +kernel
theorem dX8_use_60 : decode cX8_use 60 = .ok (.iaload, 1) := by decide +kernel
theorem dX8_use_61 : decode cX8_use 61 = .ok (.iload_n 3, 1) := by decide +kernel
theorem dX8_use_62 : decode cX8_use 62 = .ok (.isub, 1) := by decide +kernel
theorem dX8_use_63 : decode cX8_use 63 = .ok (.iastore, 1) := by decide +kernel
theorem dX8_use_64 : decode cX8_use 64 = .ok (.aload_n 0, 1) := by decide +kernel
theorem dX8_use_65 : decode cX8_use 65 = .ok (.getfield 10, 3) := by decide +kernel
theorem dX8_use_68 : decode cX8_use 68 = .ok (.getfield 145, 3) := by decide +kernel
theorem dX8_use_71 : decode cX8_use 71 = .ok (.iload_n 1, 1) := by decide +kernel
theorem dX8_use_72 : decode cX8_use 72 = .ok (.aaload, 1) := by decide +kernel
theorem dX8_use_73 : decode cX8_use 73 = .ok (.iload_n 2, 1) := by decide +kernel
theorem dX8_use_74 : decode cX8_use 74 = .ok (.iaload, 1) := by decide +kernel
theorem dX8_use_75 : decode cX8_use 75 = .ok (.ireturn, 1) := by decide +kernel
theorem dX8_mind_0 : decode cX8_mind 0 = .ok (.aload_n 0, 1) := by decide +kernel
theorem dX8_mind_1 : decode cX8_mind 1 = .ok (.getfield 10, 3) := by decide +kernel
theorem dX8_mind_4 : decode cX8_mind 4 = .ok (.iload_n 1, 1) := by decide +kernel
theorem dX8_mind_5 : decode cX8_mind 5 = .ok (.invokevirtual 139, 3) := by decide +kernel
theorem dX8_mind_8 : decode cX8_mind 8 = .ok (.ifCond .ne 5, 3) := by decide +kernel
theorem dX8_mind_11 : decode cX8_mind 11 = .ok (.iconst (-1), 1) := by decide +kernel
theorem dX8_mind_12 : decode cX8_mind 12 = .ok (.ireturn, 1) := by decide +kernel
theorem dX8_mind_13 : decode cX8_mind 13 = .ok (.iconst 0, 1) := by decide +kernel
theorem dX8_mind_14 : decode cX8_mind 14 = .ok (.istore_n 2, 1) := by decide +kernel
theorem dX8_mind_15 : decode cX8_mind 15 = .ok (.iconst 0, 1) := by decide +kernel
theorem dX8_mind_16 : decode cX8_mind 16 = .ok (.istore_n 3, 1) := by decide +kernel
theorem dX8_mind_17 : decode cX8_mind 17 = .ok (.iload_n 3, 1) := by decide +kernel
theorem dX8_mind_18 : decode cX8_mind 18 = .ok (.aload_n 0, 1) := by decide +kernel
theorem dX8_mind_19 : decode cX8_mind 19 = .ok (.getfield 10, 3) := by decide +kernel
theorem dX8_mind_22 : decode cX8_mind 22 = .ok (.getfield 95, 3) := by decide +kernel
theorem dX8_mind_25 : decode cX8_mind 25 = .ok (.if_icmp .ge 36, 3) := by decide +kernel
theorem dX8_mind_28 : decode cX8_mind 28 = .ok (.aload_n 0, 1) := by decide +kernel
theorem dX8_mind_29 : decode cX8_mind 29 = .ok (.getfield 10, 3) := by decide +kernel
theorem dX8_mind_32 : decode cX8_mind 32 = .ok (.iload_n 1, 1) := by decide +kernel
theorem dX8_mind_33 : decode cX8_mind 33 = .ok (.iload_n 3, 1) := by decide +kernel
theorem dX8_mind_34 : decode cX8_mind 34 = .ok (.aload_n 0, 1) := by decide +kernel
theorem dX8_mind_35 : decode cX8_mind 35 = .ok (.getfield 10, 3) := by decide +kernel
theorem dX8_mind_38 : decode cX8_mind 38 = .ok (.getfield 148, 3) := by decide +kernel
theorem dX8_mind_41 : decode cX8_mind 41 = .ok (.iconst 1, 1) := by decide +kernel
theorem dX8_mind_42 : decode cX8_mind 42 = .ok (.iadd, 1) := by decide +kernel
theorem dX8_mind_43 : decode cX8_mind 43 = .ok (.invokevirtual 151, 3) := by decide +kernel
theorem dX8_mind_46 : decode cX8_mind 46 = .ok (.ifCond .eq 9, 3) := by decide +kernel
theorem dX8_mind_49 : decode cX8_mind 49 = .ok (.iload_n 2, 1) := by decide +kernel
theorem dX8_mind_50 : decode cX8_mind 50 = .ok (.iconst 1, 1) := by decide +kernel
theorem dX8_mind_51 : decode cX8_mind 51 = .ok (.iload_n 3, 1) := by decide +kernel
theorem dX8_mind_52 : decode cX8_mind 52 = .ok (.ishl, 1) := by decide +kernel
theorem dX8_mind_53 : decode cX8_mind 53 = .ok (.ior, 1) := by decide +kernel
theorem dX8_mind_54 : decode cX8_mind 54 = .ok (.istore_n 2, 1) := by decide +kernel
theorem dX8_mind_55 : decode cX8_mind 55 = .ok (.iinc 3 1, 3) := by decide +kernel
theorem dX8_mind_58 : decode cX8_mind 58 = .ok (.goto (-41), 3) := by decide +kernel
theorem dX8_mind_61 : decode cX8_mind 61 = .ok (.iload_n 2, 1) := by decide +kernel
theorem dX8_mind_62 : decode cX8_mind 62 = .ok (.ireturn, 1) := by decide +kernel
theorem dX8_count_0 : decode cX8_count 0 = .ok (.iload_n 1, 1) := by decide +kernel
theorem dX8_count_1 : decode cX8_count 1 = .ok (.iconst 0, 1) := by decide +kernel
theorem dX8_count_2 : decode cX8_count 2 = .ok (.bipush 6, 2) := by decide +kernel
theorem dX8_count_4 : decode cX8_count 4 = .ok (.invokestatic 75, 3) := by decide +kernel
theorem dX8_count_7 : decode cX8_count 7 = .ok (.ifCond .ne 5, 3) := by decide +kernel
theorem dX8_count_10 : decode cX8_count 10 = .ok (.iconst (-1), 1) := by decide +kernel
theorem dX8_count_11 : decode cX8_count 11 = .ok (.ireturn, 1) := by decide +kernel
theorem dX8_count_12 : decode cX8_count 12 = .ok (.iload_n 1, 1) := by decide +kernel
theorem dX8_count_13 : decode cX8_count 13 = .ok (.iconst 4, 1) := by decide +kernel
theorem dX8_count_14 : decode cX8_count 14 = .ok (.if_icmp .lt 17, 3) := by decide +kernel
theorem dX8_count_17 : decode cX8_count 17 = .ok (.aload_n 0, 1) := by decide +kernel
theorem dX8_count_18 : decode cX8_count 18 = .ok (.getfield 10, 3) := by decide +kernel
theorem dX8_count_21 : decode cX8_count 21 = .ok (.getfield 106, 3) := by decide +kernel
theorem dX8_count_24 : decode cX8_count 24 = .ok (.iconst (-1), 1) := by decide +kernel
theorem dX8_count_25 : decode cX8_count 25 = .ok (.if_icmp .ne 6, 3) := by decide +kernel
theorem dX8_count_28 : decode cX8_count 28 = .ok (.bipush (-4), 2) := by decide +kernel
theorem dX8_count_30 : decode cX8_count 30 = .ok (.ireturn, 1) := by decide +kernel
theorem dX8_count_31 : decode cX8_count 31 = .ok (.iload_n 1, 1) := by decide +kernel
theorem dX8_count_32 : decode cX8_count 32 = .ok (.tableswitch 88 0 5 #[40, 48, 56, 64, 72, 80], 40) := by decide +kernel
theorem dX8_count_72 : decode cX8_count 72 = .ok (.aload_n 0, 1) := by decide +kernel
theorem dX8_count_73 : decode cX8_count 73 = .ok (.getfield 10, 3) := by decide +kernel
theorem dX8_count_76 : decode cX8_count 76 = .ok (.getfield 95, 3) := by decide +kernel
theorem dX8_count_79 : decode cX8_count 79 = .ok (.ireturn, 1) := by decide +kernel
theorem dX8_count_80 : decode cX8_count 80 = .ok (.aload_n 0, 1) := by decide +kernel
theorem dX8_count_81 : decode cX8_count 81 = .ok (.getfield 10, 3) := by decide +kernel
theorem dX8_count_84 : decode cX8_count 84 = .ok (.getfield 113, 3) := by decide +kernel
theorem dX8_count_87 : decode cX8_count 87 = .ok (.ireturn, 1) := by decide +kernel
theorem dX8_count_88 : decode cX8_count 88 = .ok (.aload_n 0, 1) := by decide +kernel
theorem dX8_count_89 : decode cX8_count 89 = .ok (.getfield 10, 3) := by decide +kernel
theorem dX8_count_92 : decode cX8_count 92 = .ok (.getfield 119, 3) := by decide +kernel
theorem dX8_count_95 : decode cX8_count 95 = .ok (.ireturn, 1) := by decide +kernel
theorem dX8_count_96 : decode cX8_count 96 = .ok (.aload_n 0, 1) := by decide +kernel
theorem dX8_count_97 : decode cX8_count 97 = .ok (.getfield 10, 3) := by decide +kernel
theorem dX8_count_100 : decode cX8_count 100 = .ok (.getfield 148, 3) := by decide +kernel
theorem dX8_count_103 : decode cX8_count 103 = .ok (.ireturn, 1) := by decide +kernel
theorem dX8_count_104 : decode cX8_count 104 = .ok (.aload_n 0, 1) := by decide +kernel
theorem dX8_count_105 : decode cX8_count 105 = .ok (.getfield 10, 3) := by decide +kernel
theorem dX8_count_108 : decode cX8_count 108 = .ok (.getfield 106, 3) := by decide +kernel
theorem dX8_count_111 : decode cX8_count 111 = .ok (.ireturn, 1) := by decide +kernel
theorem dX8_count_112 : decode cX8_count 112 = .ok (.aload_n 0, 1) := by decide +kernel
theorem dX8_count_113 : decode cX8_count 113 = .ok (.getfield 10, 3) := by decide +kernel
theorem dX8_count_116 : decode cX8_count 116 = .ok (.getfield 154, 3) := by decide +kernel
theorem dX8_count_119 : decode cX8_count 119 = .ok (.ireturn, 1) := by decide +kernel
theorem dX8_count_120 : decode cX8_count 120 = .ok (.aload_n 0, 1) := by decide +kernel
theorem dX8_count_121 : decode cX8_count 121 = .ok (.getfield 10, 3) := by decide +kernel
theorem dX8_count_124 : decode cX8_count 124 = .ok (.getfield 157, 3) := by decide +kernel
theorem dX8_count_127 : decode cX8_count 127 = .ok (.ireturn, 1) := by decide +kernel
theorem dX8_evening_0 : decode cX8_evening 0 = .ok (.aload_n 0, 1) := by decide +kernel
theorem dX8_evening_1 : decode cX8_evening 1 = .ok (.getfield 10, 3) := by decide +kernel
theorem dX8_evening_4 : decode cX8_evening 4 = .ok (.iload_n 1, 1) := by decide +kernel
theorem dX8_evening_5 : decode cX8_evening 5 = .ok (.invokevirtual 132, 3) := by decide +kernel
theorem dX8_evening_8 : decode cX8_evening 8 = .ok (.ifCond .eq 36, 3) := by decide +kernel
theorem dX8_evening_11 : decode cX8_evening 11 = .ok (.aload_n 0, 1) := by decide +kernel
theorem dX8_evening_12 : decode cX8_evening 12 = .ok (.getfield 10, 3) := by decide +kernel
theorem dX8_evening_15 : decode cX8_evening 15 = .ok (.iload_n 2, 1) := by decide +kernel
theorem dX8_evening_16 : decode cX8_evening 16 = .ok (.invokevirtual 125, 3) := by decide +kernel
theorem dX8_evening_19 : decode cX8_evening 19 = .ok (.ifCond .eq 25, 3) := by decide +kernel
theorem dX8_evening_22 : decode cX8_evening 22 = .ok (.iload_n 3, 1) := by decide +kernel
theorem dX8_evening_23 : decode cX8_evening 23 = .ok (.iconst 1, 1) := by decide +kernel
theorem dX8_evening_24 : decode cX8_evening 24 = .ok (.bipush 9, 2) := by decide +kernel
theorem dX8_evening_26 : decode cX8_evening 26 = .ok (.invokestatic 75, 3) := by decide +kernel
theorem dX8_evening_29 : decode cX8_evening 29 = .ok (.ifCond .eq 15, 3) := by decide +kernel
theorem dX8_evening_32 : decode cX8_evening 32 = .ok (.aload_n 0, 1) := by decide +kernel
theorem dX8_evening_33 : decode cX8_evening 33 = .ok (.getfield 10, 3) := by decide +kernel
theorem dX8_evening_36 : decode cX8_evening 36 = .ok (.iload 4, 2) := by decide +kernel
theorem dX8_evening_38 : decode cX8_evening 38 = .ok (.invokevirtual 160, 3) := by decide +kernel
theorem dX8_evening_41 : decode cX8_evening 41 = .ok (.ifCond .ne 5, 3) := by decide +kernel
theorem dX8_evening_44 : decode cX8_evening 44 = .ok (.iconst (-1), 1) := by decide +kernel
theorem dX8_evening_45 : decode cX8_evening 45 = .ok (.ireturn, 1) := by decide +kernel
theorem dX8_evening_46 : decode cX8_evening 46 = .ok (.aload_n 0, 1) := by decide +kernel
theorem dX8_evening_47 : decode cX8_evening 47 = .ok (.getfield 10, 3) := by decide +kernel
theorem dX8_evening_50 : decode cX8_evening 50 = .ok (.getfield 148, 3) := by decide +kernel
theorem dX8_evening_53 : decode cX8_evening 53 = .ok (.sipush 9999, 3) := by decide +kernel
theorem dX8_evening_56 : decode cX8_evening 56 = .ok (.if_icmp .lt 8, 3) := by decide +kernel
theorem dX8_evening_59 : decode cX8_evening 59 = .ok (.bipush (-3), 2) := by decide +kernel
theorem dX8_evening_61 : decode cX8_evening 61 = .ok (.goto 15, 3) := by decide +kernel
theorem dX8_evening_64 : decode cX8_evening 64 = .ok (.aload_n 0, 1) := by decide +kernel
theorem dX8_evening_65 : decode cX8_evening 65 = .ok (.getfield 10, 3) := by decide +kernel
theorem dX8_evening_68 : decode cX8_evening 68 = .ok (.iload_n 1, 1) := by decide +kernel
theorem dX8_evening_69 : decode cX8_evening 69 = .ok (.iload_n 2, 1) := by decide +kernel
theorem dX8_evening_70 : decode cX8_evening 70 = .ok (.iload_n 3, 1) := by decide +kernel
theorem dX8_evening_71 : decode cX8_evening 71 = .ok (.iload 4, 2) := by decide +kernel
theorem dX8_evening_73 : decode cX8_evening 73 = .ok (.invokevirtual 163, 3) := by decide +kernel
theorem dX8_evening_76 : decode cX8_evening 76 = .ok (.ireturn, 1) := by decide +kernel
theorem dX8_store_0 : decode cX8_store 0 = .ok (.aload_n 0, 1) := by decide +kernel
theorem dX8_store_1 : decode cX8_store 1 = .ok (.getfield 10, 3) := by decide +kernel
theorem dX8_store_4 : decode cX8_store 4 = .ok (.iload_n 1, 1) := by decide +kernel
theorem dX8_store_5 : decode cX8_store 5 = .ok (.invokevirtual 139, 3) := by decide +kernel
theorem dX8_store_8 : decode cX8_store 8 = .ok (.ifCond .eq 23, 3) := by decide +kernel
theorem dX8_store_11 : decode cX8_store 11 = .ok (.iload_n 2, 1) := by decide +kernel
theorem dX8_store_12 : decode cX8_store 12 = .ok (.iconst 1, 1) := by decide +kernel
theorem dX8_store_13 : decode cX8_store 13 = .ok (.iconst 5, 1) := by decide +kernel
theorem dX8_store_14 : decode cX8_store 14 = .ok (.invokestatic 75, 3) := by decide +kernel
theorem dX8_store_17 : decode cX8_store 17 = .ok (.ifCond .eq 14, 3) := by decide +kernel
theorem dX8_store_20 : decode cX8_store 20 = .ok (.iload_n 3, 1) := by decide +kernel
theorem dX8_store_21 : decode cX8_store 21 = .ok (.iconst (-1), 1) := by decide +kernel
theorem dX8_store_22 : decode cX8_store 22 = .ok (.iload_n 2, 1) := by decide +kernel
theorem dX8_store_23 : decode cX8_store 23 = .ok (.iconst 1, 1) := by decide +kernel
theorem dX8_store_24 : decode cX8_store 24 = .ok (.isub, 1) := by decide +kernel
theorem dX8_store_25 : decode cX8_store 25 = .ok (.invokestatic 75, 3) := by decide +kernel
theorem dX8_store_28 : decode cX8_store 28 = .ok (.ifCond .ne 5, 3) := by decide +kernel
theorem dX8_store_31 : decode cX8_store 31 = .ok (.iconst (-1), 1) := by decide +kernel
theorem dX8_store_32 : decode cX8_store 32 = .ok (.ireturn, 1) := by decide +kernel
theorem dX8_store_33 : decode cX8_store 33 = .ok (.aload_n 0, 1) := by decide +kernel
theorem dX8_store_34 : decode cX8_store 34 = .ok (.getfield 10, 3) := by decide +kernel
theorem dX8_store_37 : decode cX8_store 37 = .ok (.getfield 95, 3) := by decide +kernel
theorem dX8_store_40 : decode cX8_store 40 = .ok (.ifCond .ne 6, 3) := by decide +kernel
theorem dX8_store_43 : decode cX8_store 43 = .ok (.bipush (-4), 2) := by decide +kernel
theorem dX8_store_45 : decode cX8_store 45 = .ok (.ireturn, 1) := by decide +kernel
theorem dX8_store_46 : decode cX8_store 46 = .ok (.aload_n 0, 1) := by decide +kernel
theorem dX8_store_47 : decode cX8_store 47 = .ok (.getfield 42, 3) := by decide +kernel
theorem dX8_store_50 : decode cX8_store 50 = .ok (.aload_n 0, 1) := by decide +kernel
theorem dX8_store_51 : decode cX8_store 51 = .ok (.getfield 10, 3) := by decide +kernel
theorem dX8_store_54 : decode cX8_store 54 = .ok (.iload_n 1, 1) := by decide +kernel
theorem dX8_store_55 : decode cX8_store 55 = .ok (.iload_n 2, 1) := by decide +kernel
theorem dX8_store_56 : decode cX8_store 56 = .ok (.invokevirtual 167, 3) := by decide +kernel
theorem dX8_store_59 : decode cX8_store 59 = .ok (.iload_n 3, 1) := by decide +kernel
theorem dX8_store_60 : decode cX8_store 60 = .ok (.iconst (-1), 1) := by decide +kernel
theorem dX8_store_61 : decode cX8_store 61 = .ok (.if_icmp .ne 13, 3) := by decide +kernel
theorem dX8_store_64 : decode cX8_store 64 = .ok (.aload_n 0, 1) := by decide +kernel
theorem dX8_store_65 : decode cX8_store 65 = .ok (.getfield 42, 3) := by decide +kernel
theorem dX8_store_68 : decode cX8_store 68 = .ok (.getfield 171, 3) := by decide +kernel
theorem dX8_store_71 : decode cX8_store 71 = .ok (.goto 12, 3) := by decide +kernel
theorem dX8_store_74 : decode cX8_store 74 = .ok (.aload_n 0, 1) := by decide +kernel
theorem dX8_store_75 : decode cX8_store 75 = .ok (.getfield 42, 3) := by decide +kernel
theorem dX8_store_78 : decode cX8_store 78 = .ok (.getfield 174, 3) := by decide +kernel
theorem dX8_store_81 : decode cX8_store 81 = .ok (.iload_n 3, 1) := by decide +kernel
theorem dX8_store_82 : decode cX8_store 82 = .ok (.iaload, 1) := by decide +kernel
theorem dX8_store_83 : decode cX8_store 83 = .ok (.ireturn, 1) := by decide +kernel
theorem dX8_play_0 : decode cX8_play 0 = .ok (.aload_n 0, 1) := by decide +kernel
theorem dX8_play_1 : decode cX8_play 1 = .ok (.getfield 10, 3) := by decide +kernel
theorem dX8_play_4 : decode cX8_play 4 = .ok (.iload_n 1, 1) := by decide +kernel
theorem dX8_play_5 : decode cX8_play 5 = .ok (.invokevirtual 132, 3) := by decide +kernel
theorem dX8_play_8 : decode cX8_play 8 = .ok (.ifCond .eq 38, 3) := by decide +kernel
theorem dX8_play_11 : decode cX8_play 11 = .ok (.aload_n 0, 1) := by decide +kernel
theorem dX8_play_12 : decode cX8_play 12 = .ok (.getfield 10, 3) := by decide +kernel
theorem dX8_play_15 : decode cX8_play 15 = .ok (.iload_n 2, 1) := by decide +kernel
theorem dX8_play_16 : decode cX8_play 16 = .ok (.iload_n 3, 1) := by decide +kernel
theorem dX8_play_17 : decode cX8_play 17 = .ok (.iconst 1, 1) := by decide +kernel
theorem dX8_play_18 : decode cX8_play 18 = .ok (.isub, 1) := by decide +kernel
theorem dX8_play_19 : decode cX8_play 19 = .ok (.invokevirtual 102, 3) := by decide +kernel
theorem dX8_play_22 : decode cX8_play 22 = .ok (.ifCond .eq 24, 3) := by decide +kernel
theorem dX8_play_25 : decode cX8_play 25 = .ok (.iload 4, 2) := by decide +kernel
theorem dX8_play_27 : decode cX8_play 27 = .ok (.iconst 0, 1) := by decide +kernel
theorem dX8_play_28 : decode cX8_play 28 = .ok (.bipush 9, 2) := by decide +kernel
theorem dX8_play_30 : decode cX8_play 30 = .ok (.invokestatic 75, 3) := by decide +kernel
theorem dX8_play_33 : decode cX8_play 33 = .ok (.ifCond .eq 13, 3) := by decide +kernel
theorem dX8_play_36 : decode cX8_play 36 = .ok (.iload 5, 2) := by decide +kernel
theorem dX8_play_38 : decode cX8_play 38 = .ok (.iconst 0, 1) := by decide +kernel
theorem dX8_play_39 : decode cX8_play 39 = .ok (.iconst 1, 1) := by decide +kernel
theorem dX8_play_40 : decode cX8_play 40 = .ok (.invokestatic 75, 3) := by decide +kernel
theorem dX8_play_43 : decode cX8_play 43 = .ok (.ifCond .ne 6, 3) := by decide +kernel
theorem dX8_play_46 : decode cX8_play 46 = .ok (.ldc 177, 2) := by decide +kernel
theorem dX8_play_48 : decode cX8_play 48 = .ok (.ireturn, 1) := by decide +kernel
theorem dX8_play_49 : decode cX8_play 49 = .ok (.aload_n 0, 1) := by decide +kernel
theorem dX8_play_50 : decode cX8_play 50 = .ok (.getfield 70, 3) := by decide +kernel
theorem dX8_play_53 : decode cX8_play 53 = .ok (.aload_n 0, 1) := by decide +kernel
theorem dX8_play_54 : decode cX8_play 54 = .ok (.getfield 10, 3) := by decide +kernel
theorem dX8_play_57 : decode cX8_play 57 = .ok (.iload_n 1, 1) := by decide +kernel
theorem dX8_play_58 : decode cX8_play 58 = .ok (.iload_n 2, 1) := by decide +kernel
theorem dX8_play_59 : decode cX8_play 59 = .ok (.invokevirtual 178, 3) := by decide +kernel
theorem dX8_play_62 : decode cX8_play 62 = .ok (.iload 5, 2) := by decide +kernel
theorem dX8_play_64 : decode cX8_play 64 = .ok (.ifCond .ne 16, 3) := by decide +kernel
theorem dX8_play_67 : decode cX8_play 67 = .ok (.aload_n 0, 1) := by decide +kernel
theorem dX8_play_68 : decode cX8_play 68 = .ok (.getfield 70, 3) := by decide +kernel
theorem dX8_play_71 : decode cX8_play 71 = .ok (.iload_n 3, 1) := by decide +kernel
theorem dX8_play_72 : decode cX8_play 72 = .ok (.iload 4, 2) := by decide +kernel
theorem dX8_play_74 : decode cX8_play 74 = .ok (.invokevirtual 181, 3) := by decide +kernel
theorem dX8_play_77 : decode cX8_play 77 = .ok (.goto 13, 3) := by decide +kernel
theorem dX8_play_80 : decode cX8_play 80 = .ok (.aload_n 0, 1) := by decide +kernel
theorem dX8_play_81 : decode cX8_play 81 = .ok (.getfield 70, 3) := by decide +kernel
theorem dX8_play_84 : decode cX8_play 84 = .ok (.iload_n 3, 1) := by decide +kernel
theorem dX8_play_85 : decode cX8_play 85 = .ok (.iload 4, 2) := by decide +kernel
theorem dX8_play_87 : decode cX8_play 87 = .ok (.invokevirtual 185, 3) := by decide +kernel
theorem dX8_play_90 : decode cX8_play 90 = .ok (.ireturn, 1) := by decide +kernel
theorem dX8_rests_0 : decode cX8_rests 0 = .ok (.aload_n 0, 1) := by decide +kernel
theorem dX8_rests_1 : decode cX8_rests 1 = .ok (.getfield 10, 3) := by decide +kernel
theorem dX8_rests_4 : decode cX8_rests 4 = .ok (.iload_n 1, 1) := by decide +kernel
theorem dX8_rests_5 : decode cX8_rests 5 = .ok (.invokevirtual 132, 3) := by decide +kernel
theorem dX8_rests_8 : decode cX8_rests 8 = .ok (.ifCond .eq 23, 3) := by decide +kernel
theorem dX8_rests_11 : decode cX8_rests 11 = .ok (.aload_n 0, 1) := by decide +kernel
theorem dX8_rests_12 : decode cX8_rests 12 = .ok (.getfield 10, 3) := by decide +kernel
theorem dX8_rests_15 : decode cX8_rests 15 = .ok (.iload_n 2, 1) := by decide +kernel
theorem dX8_rests_16 : decode cX8_rests 16 = .ok (.invokevirtual 125, 3) := by decide +kernel
theorem dX8_rests_19 : decode cX8_rests 19 = .ok (.ifCond .eq 12, 3) := by decide +kernel
theorem dX8_rests_22 : decode cX8_rests 22 = .ok (.iload_n 3, 1) := by decide +kernel
theorem dX8_rests_23 : decode cX8_rests 23 = .ok (.iconst 0, 1) := by decide +kernel
theorem dX8_rests_24 : decode cX8_rests 24 = .ok (.iconst 1, 1) := by decide +kernel
theorem dX8_rests_25 : decode cX8_rests 25 = .ok (.invokestatic 75, 3) := by decide +kernel
theorem dX8_rests_28 : decode cX8_rests 28 = .ok (.ifCond .ne 5, 3) := by decide +kernel
theorem dX8_rests_31 : decode cX8_rests 31 = .ok (.iconst (-1), 1) := by decide +kernel
theorem dX8_rests_32 : decode cX8_rests 32 = .ok (.ireturn, 1) := by decide +kernel
theorem dX8_rests_33 : decode cX8_rests 33 = .ok (.aload_n 0, 1) := by decide +kernel
theorem dX8_rests_34 : decode cX8_rests 34 = .ok (.getfield 70, 3) := by decide +kernel
theorem dX8_rests_37 : decode cX8_rests 37 = .ok (.aload_n 0, 1) := by decide +kernel
theorem dX8_rests_38 : decode cX8_rests 38 = .ok (.getfield 10, 3) := by decide +kernel
theorem dX8_rests_41 : decode cX8_rests 41 = .ok (.iload_n 1, 1) := by decide +kernel
theorem dX8_rests_42 : decode cX8_rests 42 = .ok (.iload_n 2, 1) := by decide +kernel
theorem dX8_rests_43 : decode cX8_rests 43 = .ok (.invokevirtual 178, 3) := by decide +kernel
theorem dX8_rests_46 : decode cX8_rests 46 = .ok (.aload_n 0, 1) := by decide +kernel
theorem dX8_rests_47 : decode cX8_rests 47 = .ok (.getfield 70, 3) := by decide +kernel
theorem dX8_rests_50 : decode cX8_rests 50 = .ok (.invokevirtual 188, 3) := by decide +kernel
theorem dX8_rests_53 : decode cX8_rests 53 = .ok (.aload_n 0, 1) := by decide +kernel
theorem dX8_rests_54 : decode cX8_rests 54 = .ok (.getfield 70, 3) := by decide +kernel
theorem dX8_rests_57 : decode cX8_rests 57 = .ok (.getfield 191, 3) := by decide +kernel
theorem dX8_rests_60 : decode cX8_rests 60 = .ok (.aload_n 0, 1) := by decide +kernel
theorem dX8_rests_61 : decode cX8_rests 61 = .ok (.getfield 70, 3) := by decide +kernel
theorem dX8_rests_64 : decode cX8_rests 64 = .ok (.getfield 194, 3) := by decide +kernel
theorem dX8_rests_67 : decode cX8_rests 67 = .ok (.iload_n 3, 1) := by decide +kernel
theorem dX8_rests_68 : decode cX8_rests 68 = .ok (.invokestatic 197, 3) := by decide +kernel
theorem dX8_rests_71 : decode cX8_rests 71 = .ok (.ireturn, 1) := by decide +kernel
theorem dX8_image_0 : decode cX8_image 0 = .ok (.aload_n 0, 1) := by decide +kernel
theorem dX8_image_1 : decode cX8_image 1 = .ok (.getfield 16, 3) := by decide +kernel
theorem dX8_image_4 : decode cX8_image 4 = .ok (.aload_n 0, 1) := by decide +kernel
theorem dX8_image_5 : decode cX8_image 5 = .ok (.getfield 10, 3) := by decide +kernel
theorem dX8_image_8 : decode cX8_image 8 = .ok (.invokevirtual 200, 3) := by decide +kernel
theorem dX8_image_11 : decode cX8_image 11 = .ok (.aload_n 0, 1) := by decide +kernel
theorem dX8_image_12 : decode cX8_image 12 = .ok (.iconst 1, 1) := by decide +kernel
theorem dX8_image_13 : decode cX8_image 13 = .ok (.putfield 204, 3) := by decide +kernel
theorem dX8_image_16 : decode cX8_image 16 = .ok (.iconst 1, 1) := by decide +kernel
theorem dX8_image_17 : decode cX8_image 17 = .ok (.ireturn, 1) := by decide +kernel
theorem dX8_restore_0 : decode cX8_restore 0 = .ok (.aload_n 0, 1) := by decide +kernel
theorem dX8_restore_1 : decode cX8_restore 1 = .ok (.getfield 204, 3) := by decide +kernel
theorem dX8_restore_4 : decode cX8_restore 4 = .ok (.ifCond .ne 6, 3) := by decide +kernel
theorem dX8_restore_7 : decode cX8_restore 7 = .ok (.bipush (-4), 2) := by decide +kernel
theorem dX8_restore_9 : decode cX8_restore 9 = .ok (.ireturn, 1) := by decide +kernel
theorem dX8_restore_10 : decode cX8_restore 10 = .ok (.aload_n 0, 1) := by decide +kernel
theorem dX8_restore_11 : decode cX8_restore 11 = .ok (.getfield 10, 3) := by decide +kernel
theorem dX8_restore_14 : decode cX8_restore 14 = .ok (.aload_n 0, 1) := by decide +kernel
theorem dX8_restore_15 : decode cX8_restore 15 = .ok (.getfield 16, 3) := by decide +kernel
theorem dX8_restore_18 : decode cX8_restore 18 = .ok (.invokevirtual 200, 3) := by decide +kernel
theorem dX8_restore_21 : decode cX8_restore 21 = .ok (.iconst 1, 1) := by decide +kernel
theorem dX8_restore_22 : decode cX8_restore 22 = .ok (.ireturn, 1) := by decide +kernel
theorem dX8_coat_0 : decode cX8_coat 0 = .ok (.aload_n 0, 1) := by decide +kernel
theorem dX8_coat_1 : decode cX8_coat 1 = .ok (.getfield 10, 3) := by decide +kernel
theorem dX8_coat_4 : decode cX8_coat 4 = .ok (.iload_n 1, 1) := by decide +kernel
theorem dX8_coat_5 : decode cX8_coat 5 = .ok (.invokevirtual 139, 3) := by decide +kernel
theorem dX8_coat_8 : decode cX8_coat 8 = .ok (.ifCond .eq 22, 3) := by decide +kernel
theorem dX8_coat_11 : decode cX8_coat 11 = .ok (.iload_n 2, 1) := by decide +kernel
theorem dX8_coat_12 : decode cX8_coat 12 = .ok (.iload_n 3, 1) := by decide +kernel
theorem dX8_coat_13 : decode cX8_coat 13 = .ok (.invokestatic 208, 3) := by decide +kernel
theorem dX8_coat_16 : decode cX8_coat 16 = .ok (.ifCond .eq 14, 3) := by decide +kernel
theorem dX8_coat_19 : decode cX8_coat 19 = .ok (.iload 5, 2) := by decide +kernel
theorem dX8_coat_21 : decode cX8_coat 21 = .ok (.iconst (-1), 1) := by decide +kernel
theorem dX8_coat_22 : decode cX8_coat 22 = .ok (.bipush 7, 2) := by decide +kernel
theorem dX8_coat_24 : decode cX8_coat 24 = .ok (.invokestatic 75, 3) := by decide +kernel
theorem dX8_coat_27 : decode cX8_coat 27 = .ok (.ifCond .ne 5, 3) := by decide +kernel
theorem dX8_coat_30 : decode cX8_coat 30 = .ok (.iconst (-1), 1) := by decide +kernel
theorem dX8_coat_31 : decode cX8_coat 31 = .ok (.ireturn, 1) := by decide +kernel
theorem dX8_coat_32 : decode cX8_coat 32 = .ok (.aload_n 0, 1) := by decide +kernel
theorem dX8_coat_33 : decode cX8_coat 33 = .ok (.iload_n 2, 1) := by decide +kernel
theorem dX8_coat_34 : decode cX8_coat 34 = .ok (.iload_n 3, 1) := by decide +kernel
theorem dX8_coat_35 : decode cX8_coat 35 = .ok (.iload 4, 2) := by decide +kernel
theorem dX8_coat_37 : decode cX8_coat 37 = .ok (.iconst 4, 1) := by decide +kernel
theorem dX8_coat_38 : decode cX8_coat 38 = .ok (.bipush 99, 2) := by decide +kernel
theorem dX8_coat_40 : decode cX8_coat 40 = .ok (.invokevirtual 211, 3) := by decide +kernel
theorem dX8_coat_43 : decode cX8_coat 43 = .ok (.istore 6, 2) := by decide +kernel
theorem dX8_coat_45 : decode cX8_coat 45 = .ok (.iload 6, 2) := by decide +kernel
theorem dX8_coat_47 : decode cX8_coat 47 = .ok (.ifCond .eq 6, 3) := by decide +kernel
theorem dX8_coat_50 : decode cX8_coat 50 = .ok (.iload 6, 2) := by decide +kernel
theorem dX8_coat_52 : decode cX8_coat 52 = .ok (.ireturn, 1) := by decide +kernel
theorem dX8_coat_53 : decode cX8_coat 53 = .ok (.aload_n 0, 1) := by decide +kernel
theorem dX8_coat_54 : decode cX8_coat 54 = .ok (.getfield 49, 3) := by decide +kernel
theorem dX8_coat_57 : decode cX8_coat 57 = .ok (.aload_n 0, 1) := by decide +kernel
theorem dX8_coat_58 : decode cX8_coat 58 = .ok (.getfield 10, 3) := by decide +kernel
theorem dX8_coat_61 : decode cX8_coat 61 = .ok (.iload_n 1, 1) := by decide +kernel
theorem dX8_coat_62 : decode cX8_coat 62 = .ok (.aload_n 0, 1) := by decide +kernel
theorem dX8_coat_63 : decode cX8_coat 63 = .ok (.getfield 32, 3) := by decide +kernel
theorem dX8_coat_66 : decode cX8_coat 66 = .ok (.invokevirtual 215, 3) := by decide +kernel
theorem dX8_coat_69 : decode cX8_coat 69 = .ok (.aload_n 0, 1) := by decide +kernel
theorem dX8_coat_70 : decode cX8_coat 70 = .ok (.getfield 49, 3) := by decide +kernel
theorem dX8_coat_73 : decode cX8_coat 73 = .ok (.invokevirtual 218, 3) := by decide +kernel
theorem dX8_coat_76 : decode cX8_coat 76 = .ok (.ifCond .ne 6, 3) := by decide +kernel
theorem dX8_coat_79 : decode cX8_coat 79 = .ok (.bipush (-4), 2) := by decide +kernel
theorem dX8_coat_81 : decode cX8_coat 81 = .ok (.ireturn, 1) := by decide +kernel
theorem dX8_coat_82 : decode cX8_coat 82 = .ok (.iload 5, 2) := by decide +kernel
theorem dX8_coat_84 : decode cX8_coat 84 = .ok (.iconst (-1), 1) := by decide +kernel
theorem dX8_coat_85 : decode cX8_coat 85 = .ok (.if_icmp .ne 11, 3) := by decide +kernel
theorem dX8_coat_88 : decode cX8_coat 88 = .ok (.aload_n 0, 1) := by decide +kernel
theorem dX8_coat_89 : decode cX8_coat 89 = .ok (.getfield 49, 3) := by decide +kernel
theorem dX8_coat_92 : decode cX8_coat 92 = .ok (.getfield 222, 3) := by decide +kernel
theorem dX8_coat_95 : decode cX8_coat 95 = .ok (.ireturn, 1) := by decide +kernel
theorem dX8_coat_96 : decode cX8_coat 96 = .ok (.iload 5, 2) := by decide +kernel
theorem dX8_coat_98 : decode cX8_coat 98 = .ok (.aload_n 0, 1) := by decide +kernel
theorem dX8_coat_99 : decode cX8_coat 99 = .ok (.getfield 49, 3) := by decide +kernel
theorem dX8_coat_102 : decode cX8_coat 102 = .ok (.getfield 222, 3) := by decide +kernel
theorem dX8_coat_105 : decode cX8_coat 105 = .ok (.if_icmp .ge 16, 3) := by decide +kernel
theorem dX8_coat_108 : decode cX8_coat 108 = .ok (.aload_n 0, 1) := by decide +kernel
theorem dX8_coat_109 : decode cX8_coat 109 = .ok (.getfield 49, 3) := by decide +kernel
theorem dX8_coat_112 : decode cX8_coat 112 = .ok (.getfield 225, 3) := by decide +kernel
theorem dX8_coat_115 : decode cX8_coat 115 = .ok (.iload 5, 2) := by decide +kernel
theorem dX8_coat_117 : decode cX8_coat 117 = .ok (.iaload, 1) := by decide +kernel
theorem dX8_coat_118 : decode cX8_coat 118 = .ok (.goto 5, 3) := by decide +kernel
theorem dX8_coat_121 : decode cX8_coat 121 = .ok (.bipush (-4), 2) := by decide +kernel
theorem dX8_coat_123 : decode cX8_coat 123 = .ok (.ireturn, 1) := by decide +kernel
theorem dX8_read_0 : decode cX8_read 0 = .ok (.iload_n 1, 1) := by decide +kernel
theorem dX8_read_1 : decode cX8_read 1 = .ok (.iload_n 2, 1) := by decide +kernel
theorem dX8_read_2 : decode cX8_read 2 = .ok (.invokestatic 208, 3) := by decide +kernel
theorem dX8_read_5 : decode cX8_read 5 = .ok (.ifCond .eq 25, 3) := by decide +kernel
theorem dX8_read_8 : decode cX8_read 8 = .ok (.iload 4, 2) := by decide +kernel
theorem dX8_read_10 : decode cX8_read 10 = .ok (.iconst 1, 1) := by decide +kernel
theorem dX8_read_11 : decode cX8_read 11 = .ok (.bipush 16, 2) := by decide +kernel
theorem dX8_read_13 : decode cX8_read 13 = .ok (.invokestatic 75, 3) := by decide +kernel
theorem dX8_read_16 : decode cX8_read 16 = .ok (.ifCond .eq 14, 3) := by decide +kernel
theorem dX8_read_19 : decode cX8_read 19 = .ok (.iload 5, 2) := by decide +kernel
theorem dX8_read_21 : decode cX8_read 21 = .ok (.iconst (-1), 1) := by decide +kernel
theorem dX8_read_22 : decode cX8_read 22 = .ok (.bipush 7, 2) := by decide +kernel
theorem dX8_read_24 : decode cX8_read 24 = .ok (.invokestatic 75, 3) := by decide +kernel
theorem dX8_read_27 : decode cX8_read 27 = .ok (.ifCond .ne 5, 3) := by decide +kernel
theorem dX8_read_30 : decode cX8_read 30 = .ok (.iconst (-1), 1) := by decide +kernel
theorem dX8_read_31 : decode cX8_read 31 = .ok (.ireturn, 1) := by decide +kernel
theorem dX8_read_32 : decode cX8_read 32 = .ok (.aload_n 0, 1) := by decide +kernel
theorem dX8_read_33 : decode cX8_read 33 = .ok (.iload_n 1, 1) := by decide +kernel
theorem dX8_read_34 : decode cX8_read 34 = .ok (.iload_n 2, 1) := by decide +kernel
theorem dX8_read_35 : decode cX8_read 35 = .ok (.iload_n 3, 1) := by decide +kernel
theorem dX8_read_36 : decode cX8_read 36 = .ok (.iload 4, 2) := by decide +kernel
theorem dX8_read_38 : decode cX8_read 38 = .ok (.iconst 3, 1) := by decide +kernel
theorem dX8_read_39 : decode cX8_read 39 = .ok (.invokevirtual 211, 3) := by decide +kernel
theorem dX8_read_42 : decode cX8_read 42 = .ok (.istore 6, 2) := by decide +kernel
theorem dX8_read_44 : decode cX8_read 44 = .ok (.iload 6, 2) := by decide +kernel
theorem dX8_read_46 : decode cX8_read 46 = .ok (.ifCond .eq 6, 3) := by decide +kernel
theorem dX8_read_49 : decode cX8_read 49 = .ok (.iload 6, 2) := by decide +kernel
theorem dX8_read_51 : decode cX8_read 51 = .ok (.ireturn, 1) := by decide +kernel
theorem dX8_read_52 : decode cX8_read 52 = .ok (.aload_n 0, 1) := by decide +kernel
theorem dX8_read_53 : decode cX8_read 53 = .ok (.getfield 56, 3) := by decide +kernel
theorem dX8_read_56 : decode cX8_read 56 = .ok (.aload_n 0, 1) := by decide +kernel
theorem dX8_read_57 : decode cX8_read 57 = .ok (.getfield 10, 3) := by decide +kernel
theorem dX8_read_60 : decode cX8_read 60 = .ok (.aload_n 0, 1) := by decide +kernel
theorem dX8_read_61 : decode cX8_read 61 = .ok (.getfield 32, 3) := by decide +kernel
theorem dX8_read_64 : decode cX8_read 64 = .ok (.iload 4, 2) := by decide +kernel
theorem dX8_read_66 : decode cX8_read 66 = .ok (.invokevirtual 226, 3) := by decide +kernel
theorem dX8_read_69 : decode cX8_read 69 = .ok (.iload 5, 2) := by decide +kernel
theorem dX8_read_71 : decode cX8_read 71 = .ok (.iconst (-1), 1) := by decide +kernel
theorem dX8_read_72 : decode cX8_read 72 = .ok (.if_icmp .ne 11, 3) := by decide +kernel
theorem dX8_read_75 : decode cX8_read 75 = .ok (.aload_n 0, 1) := by decide +kernel
theorem dX8_read_76 : decode cX8_read 76 = .ok (.getfield 56, 3) := by decide +kernel
theorem dX8_read_79 : decode cX8_read 79 = .ok (.getfield 229, 3) := by decide +kernel
theorem dX8_read_82 : decode cX8_read 82 = .ok (.ireturn, 1) := by decide +kernel
theorem dX8_read_83 : decode cX8_read 83 = .ok (.iload 5, 2) := by decide +kernel
theorem dX8_read_85 : decode cX8_read 85 = .ok (.aload_n 0, 1) := by decide +kernel
theorem dX8_read_86 : decode cX8_read 86 = .ok (.getfield 56, 3) := by decide +kernel
theorem dX8_read_89 : decode cX8_read 89 = .ok (.getfield 232, 3) := by decide +kernel
theorem dX8_read_92 : decode cX8_read 92 = .ok (.if_icmp .ge 16, 3) := by decide +kernel
theorem dX8_read_95 : decode cX8_read 95 = .ok (.aload_n 0, 1) := by decide +kernel
theorem dX8_read_96 : decode cX8_read 96 = .ok (.getfield 56, 3) := by decide +kernel
theorem dX8_read_99 : decode cX8_read 99 = .ok (.getfield 235, 3) := by decide +kernel
theorem dX8_read_102 : decode cX8_read 102 = .ok (.iload 5, 2) := by decide +kernel
theorem dX8_read_104 : decode cX8_read 104 = .ok (.iaload, 1) := by decide +kernel
theorem dX8_read_105 : decode cX8_read 105 = .ok (.goto 5, 3) := by decide +kernel
theorem dX8_read_108 : decode cX8_read 108 = .ok (.bipush (-4), 2) := by decide +kernel
theorem dX8_read_110 : decode cX8_read 110 = .ok (.ireturn, 1) := by decide +kernel
theorem dX8_untangle_0 : decode cX8_untangle 0 = .ok (.iload_n 1, 1) := by decide +kernel
theorem dX8_untangle_1 : decode cX8_untangle 1 = .ok (.iload_n 2, 1) := by decide +kernel
theorem dX8_untangle_2 : decode cX8_untangle 2 = .ok (.invokestatic 208, 3) := by decide +kernel
theorem dX8_untangle_5 : decode cX8_untangle 5 = .ok (.ifCond .eq 24, 3) := by decide +kernel
theorem dX8_untangle_8 : decode cX8_untangle 8 = .ok (.iload 4, 2) := by decide +kernel
theorem dX8_untangle_10 : decode cX8_untangle 10 = .ok (.iconst 1, 1) := by decide +kernel
theorem dX8_untangle_11 : decode cX8_untangle 11 = .ok (.bipush 16, 2) := by decide +kernel
theorem dX8_untangle_13 : decode cX8_untangle 13 = .ok (.invokestatic 75, 3) := by decide +kernel
theorem dX8_untangle_16 : decode cX8_untangle 16 = .ok (.ifCond .eq 13, 3) := by decide +kernel
theorem dX8_untangle_19 : decode cX8_untangle 19 = .ok (.iload 5, 2) := by decide +kernel
theorem dX8_untangle_21 : decode cX8_untangle 21 = .ok (.iconst 0, 1) := by decide +kernel
theorem dX8_untangle_22 : decode cX8_untangle 22 = .ok (.iconst 1, 1) := by decide +kernel
theorem dX8_untangle_23 : decode cX8_untangle 23 = .ok (.invokestatic 75, 3) := by decide +kernel
theorem dX8_untangle_26 : decode cX8_untangle 26 = .ok (.ifCond .ne 5, 3) := by decide +kernel
theorem dX8_untangle_29 : decode cX8_untangle 29 = .ok (.iconst (-1), 1) := by decide +kernel
theorem dX8_untangle_30 : decode cX8_untangle 30 = .ok (.ireturn, 1) := by decide +kernel
theorem dX8_untangle_31 : decode cX8_untangle 31 = .ok (.aload_n 0, 1) := by decide +kernel
theorem dX8_untangle_32 : decode cX8_untangle 32 = .ok (.iload_n 1, 1) := by decide +kernel
theorem dX8_untangle_33 : decode cX8_untangle 33 = .ok (.iload_n 2, 1) := by decide +kernel
theorem dX8_untangle_34 : decode cX8_untangle 34 = .ok (.iload_n 3, 1) := by decide +kernel
theorem dX8_untangle_35 : decode cX8_untangle 35 = .ok (.iload 4, 2) := by decide +kernel
theorem dX8_untangle_37 : decode cX8_untangle 37 = .ok (.bipush 9, 2) := by decide +kernel
theorem dX8_untangle_39 : decode cX8_untangle 39 = .ok (.invokevirtual 211, 3) := by decide +kernel
theorem dX8_untangle_42 : decode cX8_untangle 42 = .ok (.istore 6, 2) := by decide +kernel
theorem dX8_untangle_44 : decode cX8_untangle 44 = .ok (.iload 6, 2) := by decide +kernel
theorem dX8_untangle_46 : decode cX8_untangle 46 = .ok (.ifCond .eq 6, 3) := by decide +kernel
theorem dX8_untangle_49 : decode cX8_untangle 49 = .ok (.iload 6, 2) := by decide +kernel
theorem dX8_untangle_51 : decode cX8_untangle 51 = .ok (.ireturn, 1) := by decide +kernel
theorem dX8_untangle_52 : decode cX8_untangle 52 = .ok (.iconst 0, 1) := by decide +kernel
theorem dX8_untangle_53 : decode cX8_untangle 53 = .ok (.istore 7, 2) := by decide +kernel
theorem dX8_untangle_55 : decode cX8_untangle 55 = .ok (.bipush (-4), 2) := by decide +kernel
theorem dX8_untangle_57 : decode cX8_untangle 57 = .ok (.istore 8, 2) := by decide +kernel
theorem dX8_untangle_59 : decode cX8_untangle 59 = .ok (.iconst 0, 1) := by decide +kernel
theorem dX8_untangle_60 : decode cX8_untangle 60 = .ok (.istore 9, 2) := by decide +kernel
theorem dX8_untangle_62 : decode cX8_untangle 62 = .ok (.iload 9, 2) := by decide +kernel
theorem dX8_untangle_64 : decode cX8_untangle 64 = .ok (.aload_n 0, 1) := by decide +kernel
theorem dX8_untangle_65 : decode cX8_untangle 65 = .ok (.getfield 10, 3) := by decide +kernel
theorem dX8_untangle_68 : decode cX8_untangle 68 = .ok (.getfield 95, 3) := by decide +kernel
theorem dX8_untangle_71 : decode cX8_untangle 71 = .ok (.if_icmp .ge 73, 3) := by decide +kernel
theorem dX8_untangle_74 : decode cX8_untangle 74 = .ok (.iconst 0, 1) := by decide +kernel
theorem dX8_untangle_75 : decode cX8_untangle 75 = .ok (.istore 10, 2) := by decide +kernel
theorem dX8_untangle_77 : decode cX8_untangle 77 = .ok (.iload 10, 2) := by decide +kernel
theorem dX8_untangle_79 : decode cX8_untangle 79 = .ok (.aload_n 0, 1) := by decide +kernel
theorem dX8_untangle_80 : decode cX8_untangle 80 = .ok (.getfield 10, 3) := by decide +kernel
theorem dX8_untangle_83 : decode cX8_untangle 83 = .ok (.getfield 95, 3) := by decide +kernel
theorem dX8_untangle_86 : decode cX8_untangle 86 = .ok (.if_icmp .ge 52, 3) := by decide +kernel
theorem dX8_untangle_89 : decode cX8_untangle 89 = .ok (.iload 9, 2) := by decide +kernel
theorem dX8_untangle_91 : decode cX8_untangle 91 = .ok (.iload 10, 2) := by decide +kernel
theorem dX8_untangle_93 : decode cX8_untangle 93 = .ok (.if_icmp .eq 39, 3) := by decide +kernel
theorem dX8_untangle_96 : decode cX8_untangle 96 = .ok (.aload_n 0, 1) := by decide +kernel
theorem dX8_untangle_97 : decode cX8_untangle 97 = .ok (.iload 9, 2) := by decide +kernel
theorem dX8_untangle_99 : decode cX8_untangle 99 = .ok (.iload 10, 2) := by decide +kernel
theorem dX8_untangle_101 : decode cX8_untangle 101 = .ok (.iload 4, 2) := by decide +kernel
theorem dX8_untangle_103 : decode cX8_untangle 103 = .ok (.invokevirtual 238, 3) := by decide +kernel
theorem dX8_untangle_106 : decode cX8_untangle 106 = .ok (.ifCond .eq 26, 3) := by decide +kernel
theorem dX8_untangle_109 : decode cX8_untangle 109 = .ok (.iload 7, 2) := by decide +kernel
theorem dX8_untangle_111 : decode cX8_untangle 111 = .ok (.ifCond .ne 14, 3) := by decide +kernel
theorem dX8_untangle_114 : decode cX8_untangle 114 = .ok (.bipush 10, 2) := by decide +kernel
theorem dX8_untangle_116 : decode cX8_untangle 116 = .ok (.iload 9, 2) := by decide +kernel
theorem dX8_untangle_118 : decode cX8_untangle 118 = .ok (.imul, 1) := by decide +kernel
theorem dX8_untangle_119 : decode cX8_untangle 119 = .ok (.iload 10, 2) := by decide +kernel
theorem dX8_untangle_121 : decode cX8_untangle 121 = .ok (.iadd, 1) := by decide +kernel
theorem dX8_untangle_122 : decode cX8_untangle 122 = .ok (.goto 5, 3) := by decide +kernel
theorem dX8_untangle_125 : decode cX8_untangle 125 = .ok (.iload 8, 2) := by decide +kernel
theorem dX8_untangle_127 : decode cX8_untangle 127 = .ok (.istore 8, 2) := by decide +kernel
theorem dX8_untangle_129 : decode cX8_untangle 129 = .ok (.iinc 7 1, 3) := by decide +kernel
theorem dX8_untangle_132 : decode cX8_untangle 132 = .ok (.iinc 10 1, 3) := by decide +kernel
theorem dX8_untangle_135 : decode cX8_untangle 135 = .ok (.goto (-58), 3) := by decide +kernel
theorem dX8_untangle_138 : decode cX8_untangle 138 = .ok (.iinc 9 1, 3) := by decide +kernel
theorem dX8_untangle_141 : decode cX8_untangle 141 = .ok (.goto (-79), 3) := by decide +kernel
theorem dX8_untangle_144 : decode cX8_untangle 144 = .ok (.iload 7, 2) := by decide +kernel
theorem dX8_untangle_146 : decode cX8_untangle 146 = .ok (.iload 8, 2) := by decide +kernel
theorem dX8_untangle_148 : decode cX8_untangle 148 = .ok (.iload 5, 2) := by decide +kernel
theorem dX8_untangle_150 : decode cX8_untangle 150 = .ok (.invokestatic 197, 3) := by decide +kernel
theorem dX8_untangle_153 : decode cX8_untangle 153 = .ok (.ireturn, 1) := by decide +kernel
theorem dX8_tangle_0 : decode cX8_tangle 0 = .ok (.aload_n 0, 1) := by decide +kernel
theorem dX8_tangle_1 : decode cX8_tangle 1 = .ok (.getfield 10, 3) := by decide +kernel
theorem dX8_tangle_4 : decode cX8_tangle 4 = .ok (.iload_n 1, 1) := by decide +kernel
theorem dX8_tangle_5 : decode cX8_tangle 5 = .ok (.invokevirtual 125, 3) := by decide +kernel
theorem dX8_tangle_8 : decode cX8_tangle 8 = .ok (.ifCond .eq 28, 3) := by decide +kernel
theorem dX8_tangle_11 : decode cX8_tangle 11 = .ok (.aload_n 0, 1) := by decide +kernel
theorem dX8_tangle_12 : decode cX8_tangle 12 = .ok (.getfield 10, 3) := by decide +kernel
theorem dX8_tangle_15 : decode cX8_tangle 15 = .ok (.iload_n 2, 1) := by decide +kernel
theorem dX8_tangle_16 : decode cX8_tangle 16 = .ok (.invokevirtual 125, 3) := by decide +kernel
theorem dX8_tangle_19 : decode cX8_tangle 19 = .ok (.ifCond .eq 17, 3) := by decide +kernel
theorem dX8_tangle_22 : decode cX8_tangle 22 = .ok (.iload_n 1, 1) := by decide +kernel
theorem dX8_tangle_23 : decode cX8_tangle 23 = .ok (.iload_n 2, 1) := by decide +kernel
theorem dX8_tangle_24 : decode cX8_tangle 24 = .ok (.if_icmp .eq 12, 3) := by decide +kernel
theorem dX8_tangle_27 : decode cX8_tangle 27 = .ok (.iload_n 3, 1) := by decide +kernel
theorem dX8_tangle_28 : decode cX8_tangle 28 = .ok (.iload 4, 2) := by decide +kernel
theorem dX8_tangle_30 : decode cX8_tangle 30 = .ok (.invokestatic 208, 3) := by decide +kernel
theorem dX8_tangle_33 : decode cX8_tangle 33 = .ok (.ifCond .ne 5, 3) := by decide +kernel
theorem dX8_tangle_36 : decode cX8_tangle 36 = .ok (.iconst (-1), 1) := by decide +kernel
theorem dX8_tangle_37 : decode cX8_tangle 37 = .ok (.ireturn, 1) := by decide +kernel
theorem dX8_tangle_38 : decode cX8_tangle 38 = .ok (.aload_n 0, 1) := by decide +kernel
theorem dX8_tangle_39 : decode cX8_tangle 39 = .ok (.getfield 10, 3) := by decide +kernel
theorem dX8_tangle_42 : decode cX8_tangle 42 = .ok (.aload_n 0, 1) := by decide +kernel
theorem dX8_tangle_43 : decode cX8_tangle 43 = .ok (.getfield 36, 3) := by decide +kernel
theorem dX8_tangle_46 : decode cX8_tangle 46 = .ok (.iload_n 1, 1) := by decide +kernel
theorem dX8_tangle_47 : decode cX8_tangle 47 = .ok (.iload_n 2, 1) := by decide +kernel
theorem dX8_tangle_48 : decode cX8_tangle 48 = .ok (.invokevirtual 241, 3) := by decide +kernel
theorem dX8_tangle_51 : decode cX8_tangle 51 = .ok (.istore 6, 2) := by decide +kernel
theorem dX8_tangle_53 : decode cX8_tangle 53 = .ok (.aload_n 0, 1) := by decide +kernel
theorem dX8_tangle_54 : decode cX8_tangle 54 = .ok (.getfield 28, 3) := by decide +kernel
theorem dX8_tangle_57 : decode cX8_tangle 57 = .ok (.iload_n 3, 1) := by decide +kernel
theorem dX8_tangle_58 : decode cX8_tangle 58 = .ok (.aaload, 1) := by decide +kernel
theorem dX8_tangle_59 : decode cX8_tangle 59 = .ok (.iload 4, 2) := by decide +kernel
theorem dX8_tangle_61 : decode cX8_tangle 61 = .ok (.iload 5, 2) := by decide +kernel
theorem dX8_tangle_63 : decode cX8_tangle 63 = .ok (.iload 6, 2) := by decide +kernel
theorem dX8_tangle_65 : decode cX8_tangle 65 = .ok (.invokevirtual 245, 3) := by decide +kernel
theorem dX8_tangle_68 : decode cX8_tangle 68 = .ok (.istore 7, 2) := by decide +kernel
theorem dX8_tangle_70 : decode cX8_tangle 70 = .ok (.iload 7, 2) := by decide +kernel
theorem dX8_tangle_72 : decode cX8_tangle 72 = .ok (.ifCond .eq 6, 3) := by decide +kernel
theorem dX8_tangle_75 : decode cX8_tangle 75 = .ok (.iload 7, 2) := by decide +kernel
theorem dX8_tangle_77 : decode cX8_tangle 77 = .ok (.ireturn, 1) := by decide +kernel
theorem dX8_tangle_78 : decode cX8_tangle 78 = .ok (.iconst 0, 1) := by decide +kernel
theorem dX8_tangle_79 : decode cX8_tangle 79 = .ok (.istore 8, 2) := by decide +kernel
theorem dX8_tangle_81 : decode cX8_tangle 81 = .ok (.iload 8, 2) := by decide +kernel
theorem dX8_tangle_83 : decode cX8_tangle 83 = .ok (.iload 6, 2) := by decide +kernel
theorem dX8_tangle_85 : decode cX8_tangle 85 = .ok (.if_icmp .ge 31, 3) := by decide +kernel
theorem dX8_tangle_88 : decode cX8_tangle 88 = .ok (.aload_n 0, 1) := by decide +kernel
theorem dX8_tangle_89 : decode cX8_tangle 89 = .ok (.getfield 28, 3) := by decide +kernel
theorem dX8_tangle_92 : decode cX8_tangle 92 = .ok (.iload_n 3, 1) := by decide +kernel
theorem dX8_tangle_93 : decode cX8_tangle 93 = .ok (.aaload, 1) := by decide +kernel
theorem dX8_tangle_94 : decode cX8_tangle 94 = .ok (.iload 5, 2) := by decide +kernel
theorem dX8_tangle_96 : decode cX8_tangle 96 = .ok (.iload 8, 2) := by decide +kernel
theorem dX8_tangle_98 : decode cX8_tangle 98 = .ok (.iadd, 1) := by decide +kernel
theorem dX8_tangle_99 : decode cX8_tangle 99 = .ok (.aload_n 0, 1) := by decide +kernel
theorem dX8_tangle_100 : decode cX8_tangle 100 = .ok (.getfield 36, 3) := by decide +kernel
theorem dX8_tangle_103 : decode cX8_tangle 103 = .ok (.iload 8, 2) := by decide +kernel
theorem dX8_tangle_105 : decode cX8_tangle 105 = .ok (.iaload, 1) := by decide +kernel
theorem dX8_tangle_106 : decode cX8_tangle 106 = .ok (.i2l, 1) := by decide +kernel
theorem dX8_tangle_107 : decode cX8_tangle 107 = .ok (.invokevirtual 248, 3) := by decide +kernel
theorem dX8_tangle_110 : decode cX8_tangle 110 = .ok (.iinc 8 1, 3) := by decide +kernel
theorem dX8_tangle_113 : decode cX8_tangle 113 = .ok (.goto (-32), 3) := by decide +kernel
theorem dX8_tangle_116 : decode cX8_tangle 116 = .ok (.iload 6, 2) := by decide +kernel
theorem dX8_tangle_118 : decode cX8_tangle 118 = .ok (.ireturn, 1) := by decide +kernel
theorem dX8_passed_0 : decode cX8_passed 0 = .ok (.aload_n 0, 1) := by decide +kernel
theorem dX8_passed_1 : decode cX8_passed 1 = .ok (.getfield 10, 3) := by decide +kernel
theorem dX8_passed_4 : decode cX8_passed 4 = .ok (.iload_n 1, 1) := by decide +kernel
theorem dX8_passed_5 : decode cX8_passed 5 = .ok (.invokevirtual 125, 3) := by decide +kernel
theorem dX8_passed_8 : decode cX8_passed 8 = .ok (.ifCond .eq 44, 3) := by decide +kernel
theorem dX8_passed_11 : decode cX8_passed 11 = .ok (.iload_n 2, 1) := by decide +kernel
theorem dX8_passed_12 : decode cX8_passed 12 = .ok (.iconst 1, 1) := by decide +kernel
theorem dX8_passed_13 : decode cX8_passed 13 = .ok (.iconst 3, 1) := by decide +kernel
theorem dX8_passed_14 : decode cX8_passed 14 = .ok (.invokestatic 75, 3) := by decide +kernel
theorem dX8_passed_17 : decode cX8_passed 17 = .ok (.ifCond .eq 35, 3) := by decide +kernel
theorem dX8_passed_20 : decode cX8_passed 20 = .ok (.iload_n 3, 1) := by decide +kernel
theorem dX8_passed_21 : decode cX8_passed 21 = .ok (.iload 4, 2) := by decide +kernel
theorem dX8_passed_23 : decode cX8_passed 23 = .ok (.invokestatic 208, 3) := by decide +kernel
theorem dX8_passed_26 : decode cX8_passed 26 = .ok (.ifCond .eq 26, 3) := by decide +kernel
theorem dX8_passed_29 : decode cX8_passed 29 = .ok (.iload 6, 2) := by decide +kernel
theorem dX8_passed_31 : decode cX8_passed 31 = .ok (.iconst 1, 1) := by decide +kernel
theorem dX8_passed_32 : decode cX8_passed 32 = .ok (.bipush 9, 2) := by decide +kernel
theorem dX8_passed_34 : decode cX8_passed 34 = .ok (.invokestatic 75, 3) := by decide +kernel
theorem dX8_passed_37 : decode cX8_passed 37 = .ok (.ifCond .eq 15, 3) := by decide +kernel
theorem dX8_passed_40 : decode cX8_passed 40 = .ok (.iload 7, 2) := by decide +kernel
theorem dX8_passed_42 : decode cX8_passed 42 = .ok (.iconst (-1), 1) := by decide +kernel
theorem dX8_passed_43 : decode cX8_passed 43 = .ok (.iload_n 2, 1) := by decide +kernel
theorem dX8_passed_44 : decode cX8_passed 44 = .ok (.iconst 1, 1) := by decide +kernel
theorem dX8_passed_45 : decode cX8_passed 45 = .ok (.isub, 1) := by decide +kernel
theorem dX8_passed_46 : decode cX8_passed 46 = .ok (.invokestatic 75, 3) := by decide +kernel
theorem dX8_passed_49 : decode cX8_passed 49 = .ok (.ifCond .ne 5, 3) := by decide +kernel
theorem dX8_passed_52 : decode cX8_passed 52 = .ok (.iconst (-1), 1) := by decide +kernel
theorem dX8_passed_53 : decode cX8_passed 53 = .ok (.ireturn, 1) := by decide +kernel
theorem dX8_passed_54 : decode cX8_passed 54 = .ok (.aload_n 0, 1) := by decide +kernel
theorem dX8_passed_55 : decode cX8_passed 55 = .ok (.iload_n 3, 1) := by decide +kernel
theorem dX8_passed_56 : decode cX8_passed 56 = .ok (.iload 4, 2) := by decide +kernel
theorem dX8_passed_58 : decode cX8_passed 58 = .ok (.iload 5, 2) := by decide +kernel
theorem dX8_passed_60 : decode cX8_passed 60 = .ok (.iload 6, 2) := by decide +kernel
theorem dX8_passed_62 : decode cX8_passed 62 = .ok (.bipush 9, 2) := by decide +kernel
theorem dX8_passed_64 : decode cX8_passed 64 = .ok (.invokevirtual 211, 3) := by decide +kernel
theorem dX8_passed_67 : decode cX8_passed 67 = .ok (.istore 8, 2) := by decide +kernel
theorem dX8_passed_69 : decode cX8_passed 69 = .ok (.iload 8, 2) := by decide +kernel
theorem dX8_passed_71 : decode cX8_passed 71 = .ok (.ifCond .eq 6, 3) := by decide +kernel
theorem dX8_passed_74 : decode cX8_passed 74 = .ok (.iload 8, 2) := by decide +kernel
theorem dX8_passed_76 : decode cX8_passed 76 = .ok (.ireturn, 1) := by decide +kernel
theorem dX8_passed_77 : decode cX8_passed 77 = .ok (.aload_n 0, 1) := by decide +kernel
theorem dX8_passed_78 : decode cX8_passed 78 = .ok (.getfield 63, 3) := by decide +kernel
theorem dX8_passed_81 : decode cX8_passed 81 = .ok (.aload_n 0, 1) := by decide +kernel
theorem dX8_passed_82 : decode cX8_passed 82 = .ok (.getfield 10, 3) := by decide +kernel
theorem dX8_passed_85 : decode cX8_passed 85 = .ok (.iload_n 1, 1) := by decide +kernel
theorem dX8_passed_86 : decode cX8_passed 86 = .ok (.iload_n 2, 1) := by decide +kernel
theorem dX8_passed_87 : decode cX8_passed 87 = .ok (.aload_n 0, 1) := by decide +kernel
theorem dX8_passed_88 : decode cX8_passed 88 = .ok (.getfield 32, 3) := by decide +kernel
theorem dX8_passed_91 : decode cX8_passed 91 = .ok (.iload 6, 2) := by decide +kernel
theorem dX8_passed_93 : decode cX8_passed 93 = .ok (.invokevirtual 252, 3) := by decide +kernel
theorem dX8_passed_96 : decode cX8_passed 96 = .ok (.iload 7, 2) := by decide +kernel
theorem dX8_passed_98 : decode cX8_passed 98 = .ok (.iconst (-1), 1) := by decide +kernel
theorem dX8_passed_99 : decode cX8_passed 99 = .ok (.if_icmp .ne 11, 3) := by decide +kernel
theorem dX8_passed_102 : decode cX8_passed 102 = .ok (.aload_n 0, 1) := by decide +kernel
theorem dX8_passed_103 : decode cX8_passed 103 = .ok (.getfield 63, 3) := by decide +kernel
theorem dX8_passed_106 : decode cX8_passed 106 = .ok (.getfield 255, 3) := by decide +kernel
theorem dX8_passed_109 : decode cX8_passed 109 = .ok (.ireturn, 1) := by decide +kernel
theorem dX8_passed_110 : decode cX8_passed 110 = .ok (.aload_n 0, 1) := by decide +kernel
theorem dX8_passed_111 : decode cX8_passed 111 = .ok (.getfield 63, 3) := by decide +kernel
theorem dX8_passed_114 : decode cX8_passed 114 = .ok (.getfield 255, 3) := by decide +kernel
theorem dX8_passed_117 : decode cX8_passed 117 = .ok (.ifCond .ne 8, 3) := by decide +kernel
theorem dX8_passed_120 : decode cX8_passed 120 = .ok (.bipush (-4), 2) := by decide +kernel
theorem dX8_passed_122 : decode cX8_passed 122 = .ok (.goto 13, 3) := by decide +kernel
theorem dX8_passed_125 : decode cX8_passed 125 = .ok (.aload_n 0, 1) := by decide +kernel
theorem dX8_passed_126 : decode cX8_passed 126 = .ok (.getfield 63, 3) := by decide +kernel
theorem dX8_passed_129 : decode cX8_passed 129 = .ok (.getfield 256, 3) := by decide +kernel
theorem dX8_passed_132 : decode cX8_passed 132 = .ok (.iload 7, 2) := by decide +kernel
theorem dX8_passed_134 : decode cX8_passed 134 = .ok (.iaload, 1) := by decide +kernel
theorem dX8_passed_135 : decode cX8_passed 135 = .ok (.ireturn, 1) := by decide +kernel
theorem dX8_sheet_0 : decode cX8_sheet 0 = .ok (.iload_n 1, 1) := by decide +kernel
theorem dX8_sheet_1 : decode cX8_sheet 1 = .ok (.iload_n 2, 1) := by decide +kernel
theorem dX8_sheet_2 : decode cX8_sheet 2 = .ok (.invokestatic 208, 3) := by decide +kernel
theorem dX8_sheet_5 : decode cX8_sheet 5 = .ok (.ifCond .eq 9, 3) := by decide +kernel
theorem dX8_sheet_8 : decode cX8_sheet 8 = .ok (.iload_n 3, 1) := by decide +kernel
theorem dX8_sheet_9 : decode cX8_sheet 9 = .ok (.bipush 24, 2) := by decide +kernel
theorem dX8_sheet_11 : decode cX8_sheet 11 = .ok (.if_icmp .le 5, 3) := by decide +kernel
theorem dX8_sheet_14 : decode cX8_sheet 14 = .ok (.iconst (-1), 1) := by decide +kernel
theorem dX8_sheet_15 : decode cX8_sheet 15 = .ok (.ireturn, 1) := by decide +kernel
theorem dX8_sheet_16 : decode cX8_sheet 16 = .ok (.iload_n 3, 1) := by decide +kernel
theorem dX8_sheet_17 : decode cX8_sheet 17 = .ok (.ifCond .ge 6, 3) := by decide +kernel
theorem dX8_sheet_20 : decode cX8_sheet 20 = .ok (.bipush (-14), 2) := by decide +kernel
theorem dX8_sheet_22 : decode cX8_sheet 22 = .ok (.ireturn, 1) := by decide +kernel
theorem dX8_sheet_23 : decode cX8_sheet 23 = .ok (.aload_n 0, 1) := by decide +kernel
theorem dX8_sheet_24 : decode cX8_sheet 24 = .ok (.getfield 28, 3) := by decide +kernel
theorem dX8_sheet_27 : decode cX8_sheet 27 = .ok (.iload_n 1, 1) := by decide +kernel
theorem dX8_sheet_28 : decode cX8_sheet 28 = .ok (.aaload, 1) := by decide +kernel
theorem dX8_sheet_29 : decode cX8_sheet 29 = .ok (.iload_n 2, 1) := by decide +kernel
theorem dX8_sheet_30 : decode cX8_sheet 30 = .ok (.iload_n 3, 1) := by decide +kernel
theorem dX8_sheet_31 : decode cX8_sheet 31 = .ok (.invokevirtual 257, 3) := by decide +kernel
theorem dX8_sheet_34 : decode cX8_sheet 34 = .ok (.iload_n 3, 1) := by decide +kernel
theorem dX8_sheet_35 : decode cX8_sheet 35 = .ok (.ireturn, 1) := by decide +kernel
theorem dX8_drop_0 : decode cX8_drop 0 = .ok (.iload_n 1, 1) := by decide +kernel
theorem dX8_drop_1 : decode cX8_drop 1 = .ok (.invokestatic 260, 3) := by decide +kernel
theorem dX8_drop_4 : decode cX8_drop 4 = .ok (.ifCond .ne 5, 3) := by decide +kernel
theorem dX8_drop_7 : decode cX8_drop 7 = .ok (.iconst (-1), 1) := by decide +kernel
theorem dX8_drop_8 : decode cX8_drop 8 = .ok (.ireturn, 1) := by decide +kernel
theorem dX8_drop_9 : decode cX8_drop 9 = .ok (.aload_n 0, 1) := by decide +kernel
theorem dX8_drop_10 : decode cX8_drop 10 = .ok (.getfield 28, 3) := by decide +kernel
theorem dX8_drop_13 : decode cX8_drop 13 = .ok (.iload_n 1, 1) := by decide +kernel
theorem dX8_drop_14 : decode cX8_drop 14 = .ok (.aaload, 1) := by decide +kernel
theorem dX8_drop_15 : decode cX8_drop 15 = .ok (.getfield 263, 3) := by decide +kernel
theorem dX8_drop_18 : decode cX8_drop 18 = .ok (.iconst (-1), 1) := by decide +kernel
theorem dX8_drop_19 : decode cX8_drop 19 = .ok (.if_icmp .ne 6, 3) := by decide +kernel
theorem dX8_drop_22 : decode cX8_drop 22 = .ok (.bipush (-11), 2) := by decide +kernel
theorem dX8_drop_24 : decode cX8_drop 24 = .ok (.ireturn, 1) := by decide +kernel
theorem dX8_drop_25 : decode cX8_drop 25 = .ok (.aload_n 0, 1) := by decide +kernel
theorem dX8_drop_26 : decode cX8_drop 26 = .ok (.getfield 28, 3) := by decide +kernel
theorem dX8_drop_29 : decode cX8_drop 29 = .ok (.iload_n 1, 1) := by decide +kernel
theorem dX8_drop_30 : decode cX8_drop 30 = .ok (.aaload, 1) := by decide +kernel
theorem dX8_drop_31 : decode cX8_drop 31 = .ok (.iconst (-1), 1) := by decide +kernel
theorem dX8_drop_32 : decode cX8_drop 32 = .ok (.putfield 263, 3) := by decide +kernel
theorem dX8_drop_35 : decode cX8_drop 35 = .ok (.aload_n 0, 1) := by decide +kernel
theorem dX8_drop_36 : decode cX8_drop 36 = .ok (.getfield 28, 3) := by decide +kernel
theorem dX8_drop_39 : decode cX8_drop 39 = .ok (.iload_n 1, 1) := by decide +kernel
theorem dX8_drop_40 : decode cX8_drop 40 = .ok (.aaload, 1) := by decide +kernel
theorem dX8_drop_41 : decode cX8_drop 41 = .ok (.getfield 266, 3) := by decide +kernel
theorem dX8_drop_44 : decode cX8_drop 44 = .ok (.ireturn, 1) := by decide +kernel
theorem dX8_item_0 : decode cX8_item 0 = .ok (.iload_n 1, 1) := by decide +kernel
theorem dX8_item_1 : decode cX8_item 1 = .ok (.iload_n 2, 1) := by decide +kernel
theorem dX8_item_2 : decode cX8_item 2 = .ok (.invokestatic 208, 3) := by decide +kernel
theorem dX8_item_5 : decode cX8_item 5 = .ok (.ifCond .ne 5, 3) := by decide +kernel
theorem dX8_item_8 : decode cX8_item 8 = .ok (.iconst (-1), 1) := by decide +kernel
theorem dX8_item_9 : decode cX8_item 9 = .ok (.ireturn, 1) := by decide +kernel
theorem dX8_item_10 : decode cX8_item 10 = .ok (.aload_n 0, 1) := by decide +kernel
theorem dX8_item_11 : decode cX8_item 11 = .ok (.getfield 28, 3) := by decide +kernel
theorem dX8_item_14 : decode cX8_item 14 = .ok (.iload_n 1, 1) := by decide +kernel
theorem dX8_item_15 : decode cX8_item 15 = .ok (.aaload, 1) := by decide +kernel
theorem dX8_item_16 : decode cX8_item 16 = .ok (.iload_n 2, 1) := by decide +kernel
theorem dX8_item_17 : decode cX8_item 17 = .ok (.iload_n 3, 1) := by decide +kernel
theorem dX8_item_18 : decode cX8_item 18 = .ok (.iconst 1, 1) := by decide +kernel
theorem dX8_item_19 : decode cX8_item 19 = .ok (.invokevirtual 245, 3) := by decide +kernel
theorem dX8_item_22 : decode cX8_item 22 = .ok (.istore 6, 2) := by decide +kernel
theorem dX8_item_24 : decode cX8_item 24 = .ok (.iload 6, 2) := by decide +kernel
theorem dX8_item_26 : decode cX8_item 26 = .ok (.ifCond .eq 6, 3) := by decide +kernel
theorem dX8_item_29 : decode cX8_item 29 = .ok (.iload 6, 2) := by decide +kernel
theorem dX8_item_31 : decode cX8_item 31 = .ok (.ireturn, 1) := by decide +kernel
theorem dX8_item_32 : decode cX8_item 32 = .ok (.aload_n 0, 1) := by decide +kernel
theorem dX8_item_33 : decode cX8_item 33 = .ok (.getfield 28, 3) := by decide +kernel
theorem dX8_item_36 : decode cX8_item 36 = .ok (.iload_n 1, 1) := by decide +kernel
theorem dX8_item_37 : decode cX8_item 37 = .ok (.aaload, 1) := by decide +kernel
theorem dX8_item_38 : decode cX8_item 38 = .ok (.iload_n 3, 1) := by decide +kernel
theorem dX8_item_39 : decode cX8_item 39 = .ok (.lload 4, 2) := by decide +kernel
theorem dX8_item_41 : decode cX8_item 41 = .ok (.invokevirtual 248, 3) := by decide +kernel
theorem dX8_item_44 : decode cX8_item 44 = .ok (.iconst 1, 1) := by decide +kernel
theorem dX8_item_45 : decode cX8_item 45 = .ok (.ireturn, 1) := by decide +kernel
theorem dX8_copy_0 : decode cX8_copy 0 = .ok (.iload_n 1, 1) := by decide +kernel
theorem dX8_copy_1 : decode cX8_copy 1 = .ok (.invokestatic 260, 3) := by decide +kernel
theorem dX8_copy_4 : decode cX8_copy 4 = .ok (.ifCond .eq 10, 3) := by decide +kernel
theorem dX8_copy_7 : decode cX8_copy 7 = .ok (.iload_n 3, 1) := by decide +kernel
theorem dX8_copy_8 : decode cX8_copy 8 = .ok (.invokestatic 260, 3) := by decide +kernel
theorem dX8_copy_11 : decode cX8_copy 11 = .ok (.ifCond .ne 5, 3) := by decide +kernel
theorem dX8_copy_14 : decode cX8_copy 14 = .ok (.iconst (-1), 1) := by decide +kernel
theorem dX8_copy_15 : decode cX8_copy 15 = .ok (.ireturn, 1) := by decide +kernel
theorem dX8_copy_16 : decode cX8_copy 16 = .ok (.aload_n 0, 1) := by decide +kernel
theorem dX8_copy_17 : decode cX8_copy 17 = .ok (.getfield 28, 3) := by decide +kernel
theorem dX8_copy_20 : decode cX8_copy 20 = .ok (.iload_n 1, 1) := by decide +kernel
theorem dX8_copy_21 : decode cX8_copy 21 = .ok (.aaload, 1) := by decide +kernel
theorem dX8_copy_22 : decode cX8_copy 22 = .ok (.astore 6, 2) := by decide +kernel
theorem dX8_copy_24 : decode cX8_copy 24 = .ok (.aload_n 0, 1) := by decide +kernel
theorem dX8_copy_25 : decode cX8_copy 25 = .ok (.getfield 28, 3) := by decide +kernel
theorem dX8_copy_28 : decode cX8_copy 28 = .ok (.iload_n 3, 1) := by decide +kernel
theorem dX8_copy_29 : decode cX8_copy 29 = .ok (.aaload, 1) := by decide +kernel
theorem dX8_copy_30 : decode cX8_copy 30 = .ok (.astore 7, 2) := by decide +kernel
theorem dX8_copy_32 : decode cX8_copy 32 = .ok (.aload 6, 2) := by decide +kernel
theorem dX8_copy_34 : decode cX8_copy 34 = .ok (.getfield 263, 3) := by decide +kernel
theorem dX8_copy_37 : decode cX8_copy 37 = .ok (.iconst (-1), 1) := by decide +kernel
theorem dX8_copy_38 : decode cX8_copy 38 = .ok (.if_icmp .eq 12, 3) := by decide +kernel
theorem dX8_copy_41 : decode cX8_copy 41 = .ok (.aload 7, 2) := by decide +kernel
theorem dX8_copy_43 : decode cX8_copy 43 = .ok (.getfield 263, 3) := by decide +kernel
theorem dX8_copy_46 : decode cX8_copy 46 = .ok (.iconst (-1), 1) := by decide +kernel
theorem dX8_copy_47 : decode cX8_copy 47 = .ok (.if_icmp .ne 6, 3) := by decide +kernel
theorem dX8_copy_50 : decode cX8_copy 50 = .ok (.bipush (-11), 2) := by decide +kernel
theorem dX8_copy_52 : decode cX8_copy 52 = .ok (.ireturn, 1) := by decide +kernel
theorem dX8_copy_53 : decode cX8_copy 53 = .ok (.aload 6, 2) := by decide +kernel
theorem dX8_copy_55 : decode cX8_copy 55 = .ok (.getfield 263, 3) := by decide +kernel
theorem dX8_copy_58 : decode cX8_copy 58 = .ok (.aload 7, 2) := by decide +kernel
theorem dX8_copy_60 : decode cX8_copy 60 = .ok (.getfield 263, 3) := by decide +kernel
theorem dX8_copy_63 : decode cX8_copy 63 = .ok (.if_icmp .eq 6, 3) := by decide +kernel
theorem dX8_copy_66 : decode cX8_copy 66 = .ok (.bipush (-12), 2) := by decide +kernel
theorem dX8_copy_68 : decode cX8_copy 68 = .ok (.ireturn, 1) := by decide +kernel
theorem dX8_copy_69 : decode cX8_copy 69 = .ok (.aload 6, 2) := by decide +kernel
theorem dX8_copy_71 : decode cX8_copy 71 = .ok (.iload_n 2, 1) := by decide +kernel
theorem dX8_copy_72 : decode cX8_copy 72 = .ok (.iload 5, 2) := by decide +kernel
theorem dX8_copy_74 : decode cX8_copy 74 = .ok (.invokevirtual 267, 3) := by decide +kernel
theorem dX8_copy_77 : decode cX8_copy 77 = .ok (.ifCond .eq 15, 3) := by decide +kernel
theorem dX8_copy_80 : decode cX8_copy 80 = .ok (.aload 7, 2) := by decide +kernel
theorem dX8_copy_82 : decode cX8_copy 82 = .ok (.iload 4, 2) := by decide +kernel
theorem dX8_copy_84 : decode cX8_copy 84 = .ok (.iload 5, 2) := by decide +kernel
theorem dX8_copy_86 : decode cX8_copy 86 = .ok (.invokevirtual 267, 3) := by decide +kernel
theorem dX8_copy_89 : decode cX8_copy 89 = .ok (.ifCond .ne 6, 3) := by decide +kernel
theorem dX8_copy_92 : decode cX8_copy 92 = .ok (.bipush (-13), 2) := by decide +kernel
theorem dX8_copy_94 : decode cX8_copy 94 = .ok (.ireturn, 1) := by decide +kernel
theorem dX8_copy_95 : decode cX8_copy 95 = .ok (.aload 6, 2) := by decide +kernel
theorem dX8_copy_97 : decode cX8_copy 97 = .ok (.getfield 270, 3) := by decide +kernel
theorem dX8_copy_100 : decode cX8_copy 100 = .ok (.iload_n 2, 1) := by decide +kernel
theorem dX8_copy_101 : decode cX8_copy 101 = .ok (.aload 7, 2) := by decide +kernel
theorem dX8_copy_103 : decode cX8_copy 103 = .ok (.getfield 270, 3) := by decide +kernel
theorem dX8_copy_106 : decode cX8_copy 106 = .ok (.iload 4, 2) := by decide +kernel
theorem dX8_copy_108 : decode cX8_copy 108 = .ok (.iload 5, 2) := by decide +kernel
theorem dX8_copy_110 : decode cX8_copy 110 = .ok (.invokestatic 273, 3) := by decide +kernel
theorem dX8_copy_113 : decode cX8_copy 113 = .ok (.iload 5, 2) := by decide +kernel
theorem dX8_copy_115 : decode cX8_copy 115 = .ok (.ireturn, 1) := by decide +kernel
theorem dX8_isWithin_0 : decode cX8_isWithin 0 = .ok (.iload_n 0, 1) := by decide +kernel
theorem dX8_isWithin_1 : decode cX8_isWithin 1 = .ok (.iload_n 1, 1) := by decide +kernel
theorem dX8_isWithin_2 : decode cX8_isWithin 2 = .ok (.if_icmp .lt 12, 3) := by decide +kernel
theorem dX8_isWithin_5 : decode cX8_isWithin 5 = .ok (.iload_n 0, 1) := by decide +kernel
theorem dX8_isWithin_6 : decode cX8_isWithin 6 = .ok (.iload_n 2, 1) := by decide +kernel
theorem dX8_isWithin_7 : decode cX8_isWithin 7 = .ok (.if_icmp .gt 7, 3) := by decide +kernel
theorem dX8_isWithin_10 : decode cX8_isWithin 10 = .ok (.iconst 1, 1) := by decide +kernel
theorem dX8_isWithin_11 : decode cX8_isWithin 11 = .ok (.goto 4, 3) := by decide +kernel
theorem dX8_isWithin_14 : decode cX8_isWithin 14 = .ok (.iconst 0, 1) := by decide +kernel
theorem dX8_isWithin_15 : decode cX8_isWithin 15 = .ok (.ireturn, 1) := by decide +kernel
theorem dX8_isSort_0 : decode cX8_isSort 0 = .ok (.iload_n 0, 1) := by decide +kernel
theorem dX8_isSort_1 : decode cX8_isSort 1 = .ok (.iconst 0, 1) := by decide +kernel
theorem dX8_isSort_2 : decode cX8_isSort 2 = .ok (.iconst 3, 1) := by decide +kernel
theorem dX8_isSort_3 : decode cX8_isSort 3 = .ok (.invokestatic 75, 3) := by decide +kernel
theorem dX8_isSort_6 : decode cX8_isSort 6 = .ok (.ireturn, 1) := by decide +kernel
theorem dX8_isSheet_0 : decode cX8_isSheet 0 = .ok (.iload_n 0, 1) := by decide +kernel
theorem dX8_isSheet_1 : decode cX8_isSheet 1 = .ok (.iconst 0, 1) := by decide +kernel
theorem dX8_isSheet_2 : decode cX8_isSheet 2 = .ok (.iconst 3, 1) := by decide +kernel
theorem dX8_isSheet_3 : decode cX8_isSheet 3 = .ok (.invokestatic 75, 3) := by decide +kernel
theorem dX8_isSheet_6 : decode cX8_isSheet 6 = .ok (.ireturn, 1) := by decide +kernel
theorem dX8_isSheetOfLane_0 : decode cX8_isSheetOfLane 0 = .ok (.iload_n 0, 1) := by decide +kernel
theorem dX8_isSheetOfLane_1 : decode cX8_isSheetOfLane 1 = .ok (.invokestatic 260, 3) := by decide +kernel
theorem dX8_isSheetOfLane_4 : decode cX8_isSheetOfLane 4 = .ok (.ifCond .eq 16, 3) := by decide +kernel
theorem dX8_isSheetOfLane_7 : decode cX8_isSheetOfLane 7 = .ok (.iload_n 1, 1) := by decide +kernel
theorem dX8_isSheetOfLane_8 : decode cX8_isSheetOfLane 8 = .ok (.iconst 0, 1) := by decide +kernel
theorem dX8_isSheetOfLane_9 : decode cX8_isSheetOfLane 9 = .ok (.iconst 2, 1) := by decide +kernel
theorem dX8_isSheetOfLane_10 : decode cX8_isSheetOfLane 10 = .ok (.invokestatic 75, 3) := by decide +kernel
theorem dX8_isSheetOfLane_13 : decode cX8_isSheetOfLane 13 = .ok (.ifCond .eq 7, 3) := by decide +kernel
theorem dX8_isSheetOfLane_16 : decode cX8_isSheetOfLane 16 = .ok (.iconst 1, 1) := by decide +kernel
theorem dX8_isSheetOfLane_17 : decode cX8_isSheetOfLane 17 = .ok (.goto 4, 3) := by decide +kernel
theorem dX8_isSheetOfLane_20 : decode cX8_isSheetOfLane 20 = .ok (.iconst 0, 1) := by decide +kernel
theorem dX8_isSheetOfLane_21 : decode cX8_isSheetOfLane 21 = .ok (.ireturn, 1) := by decide +kernel
theorem dX8_byteOf_0 : decode cX8_byteOf 0 = .ok (.lload_n 0, 1) := by decide +kernel
theorem dX8_byteOf_1 : decode cX8_byteOf 1 = .ok (.bipush 8, 2) := by decide +kernel
theorem dX8_byteOf_3 : decode cX8_byteOf 3 = .ok (.iload_n 2, 1) := by decide +kernel
theorem dX8_byteOf_4 : decode cX8_byteOf 4 = .ok (.imul, 1) := by decide +kernel
theorem dX8_byteOf_5 : decode cX8_byteOf 5 = .ok (.lushr, 1) := by decide +kernel
theorem dX8_byteOf_6 : decode cX8_byteOf 6 = .ok (.l2i, 1) := by decide +kernel
theorem dX8_byteOf_7 : decode cX8_byteOf 7 = .ok (.sipush 255, 3) := by decide +kernel
theorem dX8_byteOf_10 : decode cX8_byteOf 10 = .ok (.iand, 1) := by decide +kernel
theorem dX8_byteOf_11 : decode cX8_byteOf 11 = .ok (.ireturn, 1) := by decide +kernel
theorem dX8_sortOf_0 : decode cX8_sortOf 0 = .ok (.iload_n 0, 1) := by decide +kernel
theorem dX8_sortOf_1 : decode cX8_sortOf 1 = .ok (.iconst 3, 1) := by decide +kernel
theorem dX8_sortOf_2 : decode cX8_sortOf 2 = .ok (.idiv, 1) := by decide +kernel
theorem dX8_sortOf_3 : decode cX8_sortOf 3 = .ok (.ireturn, 1) := by decide +kernel
theorem dX8_duller_0 : decode cX8_duller 0 = .ok (.iload_n 0, 1) := by decide +kernel
theorem dX8_duller_1 : decode cX8_duller 1 = .ok (.ifCond .le 9, 3) := by decide +kernel
theorem dX8_duller_4 : decode cX8_duller 4 = .ok (.iload_n 0, 1) := by decide +kernel
theorem dX8_duller_5 : decode cX8_duller 5 = .ok (.iconst 1, 1) := by decide +kernel
theorem dX8_duller_6 : decode cX8_duller 6 = .ok (.isub, 1) := by decide +kernel
theorem dX8_duller_7 : decode cX8_duller 7 = .ok (.goto 4, 3) := by decide +kernel
theorem dX8_duller_10 : decode cX8_duller 10 = .ok (.iconst 0, 1) := by decide +kernel
theorem dX8_duller_11 : decode cX8_duller 11 = .ok (.ireturn, 1) := by decide +kernel
theorem dX8_isRemembered_0 : decode cX8_isRemembered 0 = .ok (.iload_n 0, 1) := by decide +kernel
theorem dX8_isRemembered_1 : decode cX8_isRemembered 1 = .ok (.ifCond .le 14, 3) := by decide +kernel
theorem dX8_isRemembered_4 : decode cX8_isRemembered 4 = .ok (.iload_n 1, 1) := by decide +kernel
theorem dX8_isRemembered_5 : decode cX8_isRemembered 5 = .ok (.iload_n 0, 1) := by decide +kernel
theorem dX8_isRemembered_6 : decode cX8_isRemembered 6 = .ok (.isub, 1) := by decide +kernel
theorem dX8_isRemembered_7 : decode cX8_isRemembered 7 = .ok (.iload_n 2, 1) := by decide +kernel
theorem dX8_isRemembered_8 : decode cX8_isRemembered 8 = .ok (.if_icmp .gt 7, 3) := by decide +kernel
theorem dX8_isRemembered_11 : decode cX8_isRemembered 11 = .ok (.iconst 1, 1) := by decide +kernel
theorem dX8_isRemembered_12 : decode cX8_isRemembered 12 = .ok (.goto 4, 3) := by decide +kernel
theorem dX8_isRemembered_15 : decode cX8_isRemembered 15 = .ok (.iconst 0, 1) := by decide +kernel
theorem dX8_isRemembered_16 : decode cX8_isRemembered 16 = .ok (.ireturn, 1) := by decide +kernel
theorem dX8_areSame_0 : decode cX8_areSame 0 = .ok (.iconst 0, 1) := by decide +kernel
theorem dX8_areSame_1 : decode cX8_areSame 1 = .ok (.istore_n 3, 1) := by decide +kernel
theorem dX8_areSame_2 : decode cX8_areSame 2 = .ok (.iload_n 3, 1) := by decide +kernel
theorem dX8_areSame_3 : decode cX8_areSame 3 = .ok (.iload_n 2, 1) := by decide +kernel
theorem dX8_areSame_4 : decode cX8_areSame 4 = .ok (.if_icmp .ge 20, 3) := by decide +kernel
theorem dX8_areSame_7 : decode cX8_areSame 7 = .ok (.aload_n 0, 1) := by decide +kernel
theorem dX8_areSame_8 : decode cX8_areSame 8 = .ok (.iload_n 3, 1) := by decide +kernel
theorem dX8_areSame_9 : decode cX8_areSame 9 = .ok (.iaload, 1) := by decide +kernel
theorem dX8_areSame_10 : decode cX8_areSame 10 = .ok (.aload_n 1, 1) := by decide +kernel
theorem dX8_areSame_11 : decode cX8_areSame 11 = .ok (.iload_n 3, 1) := by decide +kernel
theorem dX8_areSame_12 : decode cX8_areSame 12 = .ok (.iaload, 1) := by decide +kernel
theorem dX8_areSame_13 : decode cX8_areSame 13 = .ok (.if_icmp .eq 5, 3) := by decide +kernel
theorem dX8_areSame_16 : decode cX8_areSame 16 = .ok (.iconst 0, 1) := by decide +kernel
theorem dX8_areSame_17 : decode cX8_areSame 17 = .ok (.ireturn, 1) := by decide +kernel
theorem dX8_areSame_18 : decode cX8_areSame 18 = .ok (.iinc 3 1, 3) := by decide +kernel
theorem dX8_areSame_21 : decode cX8_areSame 21 = .ok (.goto (-19), 3) := by decide +kernel
theorem dX8_areSame_24 : decode cX8_areSame 24 = .ok (.iconst 1, 1) := by decide +kernel
theorem dX8_areSame_25 : decode cX8_areSame 25 = .ok (.ireturn, 1) := by decide +kernel
theorem dX8_asToldBy_0 : decode cX8_asToldBy 0 = .ok (.iload_n 0, 1) := by decide +kernel
theorem dX8_asToldBy_1 : decode cX8_asToldBy 1 = .ok (.ifCond .ne 5, 3) := by decide +kernel
theorem dX8_asToldBy_4 : decode cX8_asToldBy 4 = .ok (.iload_n 1, 1) := by decide +kernel
theorem dX8_asToldBy_5 : decode cX8_asToldBy 5 = .ok (.ireturn, 1) := by decide +kernel
theorem dX8_asToldBy_6 : decode cX8_asToldBy 6 = .ok (.iload_n 0, 1) := by decide +kernel
theorem dX8_asToldBy_7 : decode cX8_asToldBy 7 = .ok (.iconst 2, 1) := by decide +kernel
theorem dX8_asToldBy_8 : decode cX8_asToldBy 8 = .ok (.if_icmp .ne 14, 3) := by decide +kernel
theorem dX8_asToldBy_11 : decode cX8_asToldBy 11 = .ok (.bipush 9, 2) := by decide +kernel
theorem dX8_asToldBy_13 : decode cX8_asToldBy 13 = .ok (.iload_n 1, 1) := by decide +kernel
theorem dX8_asToldBy_14 : decode cX8_asToldBy 14 = .ok (.iconst 2, 1) := by decide +kernel
theorem dX8_asToldBy_15 : decode cX8_asToldBy 15 = .ok (.iadd, 1) := by decide +kernel
theorem dX8_asToldBy_16 : decode cX8_asToldBy 16 = .ok (.invokestatic 279, 3) := by decide +kernel
theorem dX8_asToldBy_19 : decode cX8_asToldBy 19 = .ok (.goto 10, 3) := by decide +kernel
theorem dX8_asToldBy_22 : decode cX8_asToldBy 22 = .ok (.iconst 0, 1) := by decide +kernel
theorem dX8_asToldBy_23 : decode cX8_asToldBy 23 = .ok (.iload_n 1, 1) := by decide +kernel
theorem dX8_asToldBy_24 : decode cX8_asToldBy 24 = .ok (.iconst 1, 1) := by decide +kernel
theorem dX8_asToldBy_25 : decode cX8_asToldBy 25 = .ok (.isub, 1) := by decide +kernel
theorem dX8_asToldBy_26 : decode cX8_asToldBy 26 = .ok (.invokestatic 284, 3) := by decide +kernel
theorem dX8_asToldBy_29 : decode cX8_asToldBy 29 = .ok (.ireturn, 1) := by decide +kernel
theorem dX8_retell_0 : decode cX8_retell 0 = .ok (.iconst 0, 1) := by decide +kernel
theorem dX8_retell_1 : decode cX8_retell 1 = .ok (.istore 4, 2) := by decide +kernel
theorem dX8_retell_3 : decode cX8_retell 3 = .ok (.iload 4, 2) := by decide +kernel
theorem dX8_retell_5 : decode cX8_retell 5 = .ok (.iload_n 3, 1) := by decide +kernel
theorem dX8_retell_6 : decode cX8_retell 6 = .ok (.if_icmp .ge 35, 3) := by decide +kernel
theorem dX8_retell_9 : decode cX8_retell 9 = .ok (.aload_n 2, 1) := by decide +kernel
theorem dX8_retell_10 : decode cX8_retell 10 = .ok (.iload 4, 2) := by decide +kernel
theorem dX8_retell_12 : decode cX8_retell 12 = .ok (.iload_n 0, 1) := by decide +kernel
theorem dX8_retell_13 : decode cX8_retell 13 = .ok (.aload_n 1, 1) := by decide +kernel
theorem dX8_retell_14 : decode cX8_retell 14 = .ok (.iload_n 0, 1) := by decide +kernel
theorem dX8_retell_15 : decode cX8_retell 15 = .ok (.iconst 3, 1) := by decide +kernel
theorem dX8_retell_16 : decode cX8_retell 16 = .ok (.if_icmp .ne 12, 3) := by decide +kernel
theorem dX8_retell_19 : decode cX8_retell 19 = .ok (.iload_n 3, 1) := by decide +kernel
theorem dX8_retell_20 : decode cX8_retell 20 = .ok (.iconst 1, 1) := by decide +kernel
theorem dX8_retell_21 : decode cX8_retell 21 = .ok (.isub, 1) := by decide +kernel
theorem dX8_retell_22 : decode cX8_retell 22 = .ok (.iload 4, 2) := by decide +kernel
theorem dX8_retell_24 : decode cX8_retell 24 = .ok (.isub, 1) := by decide +kernel
theorem dX8_retell_25 : decode cX8_retell 25 = .ok (.goto 5, 3) := by decide +kernel
theorem dX8_retell_28 : decode cX8_retell 28 = .ok (.iload 4, 2) := by decide +kernel
theorem dX8_retell_30 : decode cX8_retell 30 = .ok (.iaload, 1) := by decide +kernel
theorem dX8_retell_31 : decode cX8_retell 31 = .ok (.invokestatic 287, 3) := by decide +kernel
theorem dX8_retell_34 : decode cX8_retell 34 = .ok (.iastore, 1) := by decide +kernel
theorem dX8_retell_35 : decode cX8_retell 35 = .ok (.iinc 4 1, 3) := by decide +kernel
theorem dX8_retell_38 : decode cX8_retell 38 = .ok (.goto (-35), 3) := by decide +kernel
theorem dX8_retell_41 : decode cX8_retell 41 = .ok (.return_, 1) := by decide +kernel
theorem dX8_firstOrCount_0 : decode cX8_firstOrCount 0 = .ok (.iload_n 2, 1) := by decide +kernel
theorem dX8_firstOrCount_1 : decode cX8_firstOrCount 1 = .ok (.ifCond .ne 5, 3) := by decide +kernel
theorem dX8_firstOrCount_4 : decode cX8_firstOrCount 4 = .ok (.iload_n 0, 1) := by decide +kernel
theorem dX8_firstOrCount_5 : decode cX8_firstOrCount 5 = .ok (.ireturn, 1) := by decide +kernel
theorem dX8_firstOrCount_6 : decode cX8_firstOrCount 6 = .ok (.iload_n 0, 1) := by decide +kernel
theorem dX8_firstOrCount_7 : decode cX8_firstOrCount 7 = .ok (.ifCond .ne 8, 3) := by decide +kernel
theorem dX8_firstOrCount_10 : decode cX8_firstOrCount 10 = .ok (.bipush (-4), 2) := by decide +kernel
theorem dX8_firstOrCount_12 : decode cX8_firstOrCount 12 = .ok (.goto 4, 3) := by decide +kernel
theorem dX8_firstOrCount_15 : decode cX8_firstOrCount 15 = .ok (.iload_n 1, 1) := by decide +kernel
theorem dX8_firstOrCount_16 : decode cX8_firstOrCount 16 = .ok (.ireturn, 1) := by decide +kernel
theorem dX8_takeItems_0 : decode cX8_takeItems 0 = .ok (.aload_n 0, 1) := by decide +kernel
theorem dX8_takeItems_1 : decode cX8_takeItems 1 = .ok (.getfield 28, 3) := by decide +kernel
theorem dX8_takeItems_4 : decode cX8_takeItems 4 = .ok (.iload_n 1, 1) := by decide +kernel
theorem dX8_takeItems_5 : decode cX8_takeItems 5 = .ok (.aaload, 1) := by decide +kernel
theorem dX8_takeItems_6 : decode cX8_takeItems 6 = .ok (.iload_n 2, 1) := by decide +kernel
theorem dX8_takeItems_7 : decode cX8_takeItems 7 = .ok (.iload_n 3, 1) := by decide +kernel
theorem dX8_takeItems_8 : decode cX8_takeItems 8 = .ok (.iload 4, 2) := by decide +kernel
theorem dX8_takeItems_10 : decode cX8_takeItems 10 = .ok (.invokevirtual 245, 3) := by decide +kernel
theorem dX8_takeItems_13 : decode cX8_takeItems 13 = .ok (.istore 6, 2) := by decide +kernel
theorem dX8_takeItems_15 : decode cX8_takeItems 15 = .ok (.iload 6, 2) := by decide +kernel
theorem dX8_takeItems_17 : decode cX8_takeItems 17 = .ok (.ifCond .eq 6, 3) := by decide +kernel
theorem dX8_takeItems_20 : decode cX8_takeItems 20 = .ok (.iload 6, 2) := by decide +kernel
theorem dX8_takeItems_22 : decode cX8_takeItems 22 = .ok (.ireturn, 1) := by decide +kernel
theorem dX8_takeItems_23 : decode cX8_takeItems 23 = .ok (.iconst 0, 1) := by decide +kernel
theorem dX8_takeItems_24 : decode cX8_takeItems 24 = .ok (.istore 7, 2) := by decide +kernel
theorem dX8_takeItems_26 : decode cX8_takeItems 26 = .ok (.iload 7, 2) := by decide +kernel
theorem dX8_takeItems_28 : decode cX8_takeItems 28 = .ok (.iload 4, 2) := by decide +kernel
theorem dX8_takeItems_30 : decode cX8_takeItems 30 = .ok (.if_icmp .ge 49, 3) := by decide +kernel
theorem dX8_takeItems_33 : decode cX8_takeItems 33 = .ok (.aload_n 0, 1) := by decide +kernel
theorem dX8_takeItems_34 : decode cX8_takeItems 34 = .ok (.getfield 32, 3) := by decide +kernel
theorem dX8_takeItems_37 : decode cX8_takeItems 37 = .ok (.iload 7, 2) := by decide +kernel
theorem dX8_takeItems_39 : decode cX8_takeItems 39 = .ok (.aload_n 0, 1) := by decide +kernel
theorem dX8_takeItems_40 : decode cX8_takeItems 40 = .ok (.getfield 28, 3) := by decide +kernel
theorem dX8_takeItems_43 : decode cX8_takeItems 43 = .ok (.iload_n 1, 1) := by decide +kernel
theorem dX8_takeItems_44 : decode cX8_takeItems 44 = .ok (.aaload, 1) := by decide +kernel
theorem dX8_takeItems_45 : decode cX8_takeItems 45 = .ok (.getfield 270, 3) := by decide +kernel
theorem dX8_takeItems_48 : decode cX8_takeItems 48 = .ok (.iload_n 3, 1) := by decide +kernel
theorem dX8_takeItems_49 : decode cX8_takeItems 49 = .ok (.iload 7, 2) := by decide +kernel
theorem dX8_takeItems_51 : decode cX8_takeItems 51 = .ok (.iadd, 1) := by decide +kernel
theorem dX8_takeItems_52 : decode cX8_takeItems 52 = .ok (.iaload, 1) := by decide +kernel
theorem dX8_takeItems_53 : decode cX8_takeItems 53 = .ok (.iastore, 1) := by decide +kernel
theorem dX8_takeItems_54 : decode cX8_takeItems 54 = .ok (.aload_n 0, 1) := by decide +kernel
theorem dX8_takeItems_55 : decode cX8_takeItems 55 = .ok (.getfield 32, 3) := by decide +kernel
theorem dX8_takeItems_58 : decode cX8_takeItems 58 = .ok (.iload 7, 2) := by decide +kernel
theorem dX8_takeItems_60 : decode cX8_takeItems 60 = .ok (.iaload, 1) := by decide +kernel
theorem dX8_takeItems_61 : decode cX8_takeItems 61 = .ok (.iconst 0, 1) := by decide +kernel
theorem dX8_takeItems_62 : decode cX8_takeItems 62 = .ok (.iload 5, 2) := by decide +kernel
theorem dX8_takeItems_64 : decode cX8_takeItems 64 = .ok (.invokestatic 75, 3) := by decide +kernel
theorem dX8_takeItems_67 : decode cX8_takeItems 67 = .ok (.ifCond .ne 6, 3) := by decide +kernel
theorem dX8_takeItems_70 : decode cX8_takeItems 70 = .ok (.bipush (-2), 2) := by decide +kernel
theorem dX8_takeItems_72 : decode cX8_takeItems 72 = .ok (.ireturn, 1) := by decide +kernel
theorem dX8_takeItems_73 : decode cX8_takeItems 73 = .ok (.iinc 7 1, 3) := by decide +kernel
theorem dX8_takeItems_76 : decode cX8_takeItems 76 = .ok (.goto (-50), 3) := by decide +kernel
theorem dX8_takeItems_79 : decode cX8_takeItems 79 = .ok (.iconst 0, 1) := by decide +kernel
theorem dX8_takeItems_80 : decode cX8_takeItems 80 = .ok (.ireturn, 1) := by decide +kernel
theorem dX8_areTangledTo_0 : decode cX8_areTangledTo 0 = .ok (.aload_n 0, 1) := by decide +kernel
theorem dX8_areTangledTo_1 : decode cX8_areTangledTo 1 = .ok (.getfield 10, 3) := by decide +kernel
theorem dX8_areTangledTo_4 : decode cX8_areTangledTo 4 = .ok (.getfield 129, 3) := by decide +kernel
theorem dX8_areTangledTo_7 : decode cX8_areTangledTo 7 = .ok (.iload_n 1, 1) := by decide +kernel
theorem dX8_areTangledTo_8 : decode cX8_areTangledTo 8 = .ok (.iaload, 1) := by decide +kernel
theorem dX8_areTangledTo_9 : decode cX8_areTangledTo 9 = .ok (.aload_n 0, 1) := by decide +kernel
theorem dX8_areTangledTo_10 : decode cX8_areTangledTo 10 = .ok (.getfield 10, 3) := by decide +kernel
theorem dX8_areTangledTo_13 : decode cX8_areTangledTo 13 = .ok (.getfield 129, 3) := by decide +kernel
theorem dX8_areTangledTo_16 : decode cX8_areTangledTo 16 = .ok (.iload_n 2, 1) := by decide +kernel
theorem dX8_areTangledTo_17 : decode cX8_areTangledTo 17 = .ok (.iaload, 1) := by decide +kernel
theorem dX8_areTangledTo_18 : decode cX8_areTangledTo 18 = .ok (.iadd, 1) := by decide +kernel
theorem dX8_areTangledTo_19 : decode cX8_areTangledTo 19 = .ok (.iload_n 3, 1) := by decide +kernel
theorem dX8_areTangledTo_20 : decode cX8_areTangledTo 20 = .ok (.if_icmp .eq 5, 3) := by decide +kernel
theorem dX8_areTangledTo_23 : decode cX8_areTangledTo 23 = .ok (.iconst 0, 1) := by decide +kernel
theorem dX8_areTangledTo_24 : decode cX8_areTangledTo 24 = .ok (.ireturn, 1) := by decide +kernel
theorem dX8_areTangledTo_25 : decode cX8_areTangledTo 25 = .ok (.aload_n 0, 1) := by decide +kernel
theorem dX8_areTangledTo_26 : decode cX8_areTangledTo 26 = .ok (.getfield 10, 3) := by decide +kernel
theorem dX8_areTangledTo_29 : decode cX8_areTangledTo 29 = .ok (.aload_n 0, 1) := by decide +kernel
theorem dX8_areTangledTo_30 : decode cX8_areTangledTo 30 = .ok (.getfield 36, 3) := by decide +kernel
theorem dX8_areTangledTo_33 : decode cX8_areTangledTo 33 = .ok (.iload_n 1, 1) := by decide +kernel
theorem dX8_areTangledTo_34 : decode cX8_areTangledTo 34 = .ok (.iload_n 2, 1) := by decide +kernel
theorem dX8_areTangledTo_35 : decode cX8_areTangledTo 35 = .ok (.invokevirtual 241, 3) := by decide +kernel
theorem dX8_areTangledTo_38 : decode cX8_areTangledTo 38 = .ok (.pop, 1) := by decide +kernel
theorem dX8_areTangledTo_39 : decode cX8_areTangledTo 39 = .ok (.aload_n 0, 1) := by decide +kernel
theorem dX8_areTangledTo_40 : decode cX8_areTangledTo 40 = .ok (.getfield 36, 3) := by decide +kernel
theorem dX8_areTangledTo_43 : decode cX8_areTangledTo 43 = .ok (.aload_n 0, 1) := by decide +kernel
theorem dX8_areTangledTo_44 : decode cX8_areTangledTo 44 = .ok (.getfield 32, 3) := by decide +kernel
theorem dX8_areTangledTo_47 : decode cX8_areTangledTo 47 = .ok (.iload_n 3, 1) := by decide +kernel
theorem dX8_areTangledTo_48 : decode cX8_areTangledTo 48 = .ok (.invokestatic 290, 3) := by decide +kernel
theorem dX8_areTangledTo_51 : decode cX8_areTangledTo 51 = .ok (.ireturn, 1) := by decide +kernel
end
section
theorem dX9_init_0 : decode cX9_init 0 = .ok (.aload_n 0, 1) := by decide +kernel
theorem dX9_init_1 : decode cX9_init 1 = .ok (.invokespecial 1, 3) := by decide +kernel
theorem dX9_init_4 : decode cX9_init 4 = .ok (.aload_n 0, 1) := by decide +kernel
theorem dX9_init_5 : decode cX9_init 5 = .ok (.sipush 141, 3) := by decide +kernel
theorem dX9_init_8 : decode cX9_init 8 = .ok (.newarray .int, 2) := by decide +kernel
theorem dX9_init_10 : decode cX9_init 10 = .ok (.putfield 7, 3) := by decide +kernel
theorem dX9_init_13 : decode cX9_init 13 = .ok (.aload_n 0, 1) := by decide +kernel
theorem dX9_init_14 : decode cX9_init 14 = .ok (.sipush 141, 3) := by decide +kernel
theorem dX9_init_17 : decode cX9_init 17 = .ok (.newarray .int, 2) := by decide +kernel
theorem dX9_init_19 : decode cX9_init 19 = .ok (.putfield 13, 3) := by decide +kernel
theorem dX9_init_22 : decode cX9_init 22 = .ok (.aload_n 0, 1) := by decide +kernel
theorem dX9_init_23 : decode cX9_init 23 = .ok (.bipush 24, 2) := by decide +kernel
theorem dX9_init_25 : decode cX9_init 25 = .ok (.newarray .int, 2) := by decide +kernel
theorem dX9_init_27 : decode cX9_init 27 = .ok (.putfield 16, 3) := by decide +kernel
theorem dX9_init_30 : decode cX9_init 30 = .ok (.aload_n 0, 1) := by decide +kernel
theorem dX9_init_31 : decode cX9_init 31 = .ok (.iconst 4, 1) := by decide +kernel
theorem dX9_init_32 : decode cX9_init 32 = .ok (.newarray .int, 2) := by decide +kernel
theorem dX9_init_34 : decode cX9_init 34 = .ok (.putfield 19, 3) := by decide +kernel
theorem dX9_init_37 : decode cX9_init 37 = .ok (.aload_n 0, 1) := by decide +kernel
theorem dX9_init_38 : decode cX9_init 38 = .ok (.iconst 4, 1) := by decide +kernel
theorem dX9_init_39 : decode cX9_init 39 = .ok (.newarray .int, 2) := by decide +kernel
theorem dX9_init_41 : decode cX9_init 41 = .ok (.putfield 22, 3) := by decide +kernel
theorem dX9_init_44 : decode cX9_init 44 = .ok (.aload_n 0, 1) := by decide +kernel
theorem dX9_init_45 : decode cX9_init 45 = .ok (.bipush 96, 2) := by decide +kernel
theorem dX9_init_47 : decode cX9_init 47 = .ok (.newarray .int, 2) := by decide +kernel
theorem dX9_init_49 : decode cX9_init 49 = .ok (.putfield 25, 3) := by decide +kernel
theorem dX9_init_52 : decode cX9_init 52 = .ok (.aload_n 0, 1) := by decide +kernel
theorem dX9_init_53 : decode cX9_init 53 = .ok (.bipush 8, 2) := by decide +kernel
theorem dX9_init_55 : decode cX9_init 55 = .ok (.newarray .int, 2) := by decide +kernel
theorem dX9_init_57 : decode cX9_init 57 = .ok (.putfield 28, 3) := by decide +kernel
theorem dX9_init_60 : decode cX9_init 60 = .ok (.aload_n 0, 1) := by decide +kernel
theorem dX9_init_61 : decode cX9_init 61 = .ok (.bipush 8, 2) := by decide +kernel
theorem dX9_init_63 : decode cX9_init 63 = .ok (.newarray .int, 2) := by decide +kernel
theorem dX9_init_65 : decode cX9_init 65 = .ok (.putfield 31, 3) := by decide +kernel
theorem dX9_init_68 : decode cX9_init 68 = .ok (.aload_n 0, 1) := by decide +kernel
theorem dX9_init_69 : decode cX9_init 69 = .ok (.bipush 8, 2) := by decide +kernel
theorem dX9_init_71 : decode cX9_init 71 = .ok (.newarray .int, 2) := by decide +kernel
theorem dX9_init_73 : decode cX9_init 73 = .ok (.putfield 34, 3) := by decide +kernel
theorem dX9_init_76 : decode cX9_init 76 = .ok (.aload_n 0, 1) := by decide +kernel
theorem dX9_init_77 : decode cX9_init 77 = .ok (.sipush 128, 3) := by decide +kernel
theorem dX9_init_80 : decode cX9_init 80 = .ok (.newarray .int, 2) := by decide +kernel
theorem dX9_init_82 : decode cX9_init 82 = .ok (.putfield 37, 3) := by decide +kernel
theorem dX9_init_85 : decode cX9_init 85 = .ok (.aload_n 0, 1) := by decide +kernel
theorem dX9_init_86 : decode cX9_init 86 = .ok (.iconst 4, 1) := by decide +kernel
theorem dX9_init_87 : decode cX9_init 87 = .ok (.newarray .int, 2) := by decide +kernel
theorem dX9_init_89 : decode cX9_init 89 = .ok (.putfield 40, 3) := by decide +kernel
theorem dX9_init_92 : decode cX9_init 92 = .ok (.aload_n 0, 1) := by decide +kernel
theorem dX9_init_93 : decode cX9_init 93 = .ok (.bipush 18, 2) := by decide +kernel
theorem dX9_init_95 : decode cX9_init 95 = .ok (.newarray .int, 2) := by decide +kernel
theorem dX9_init_97 : decode cX9_init 97 = .ok (.putfield 43, 3) := by decide +kernel
theorem dX9_init_100 : decode cX9_init 100 = .ok (.aload_n 0, 1) := by decide +kernel
theorem dX9_init_101 : decode cX9_init 101 = .ok (.bipush 9, 2) := by decide +kernel
theorem dX9_init_103 : decode cX9_init 103 = .ok (.newarray .int, 2) := by decide +kernel
theorem dX9_init_105 : decode cX9_init 105 = .ok (.putfield 46, 3) := by decide +kernel
theorem dX9_init_108 : decode cX9_init 108 = .ok (.aload_n 0, 1) := by decide +kernel
theorem dX9_init_109 : decode cX9_init 109 = .ok (.bipush 9, 2) := by decide +kernel
theorem dX9_init_111 : decode cX9_init 111 = .ok (.newarray .int, 2) := by decide +kernel
theorem dX9_init_113 : decode cX9_init 113 = .ok (.putfield 49, 3) := by decide +kernel
theorem dX9_init_116 : decode cX9_init 116 = .ok (.aload_n 0, 1) := by decide +kernel
theorem dX9_init_117 : decode cX9_init 117 = .ok (.getfield 7, 3) := by decide +kernel
theorem dX9_init_120 : decode cX9_init 120 = .ok (.iconst 4, 1) := by decide +kernel
theorem dX9_init_121 : decode cX9_init 121 = .ok (.bipush (-4), 2) := by decide +kernel
theorem dX9_init_123 : decode cX9_init 123 = .ok (.iastore, 1) := by decide +kernel
theorem dX9_init_124 : decode cX9_init 124 = .ok (.aload_n 0, 1) := by decide +kernel
theorem dX9_init_125 : decode cX9_init 125 = .ok (.getfield 7, 3) := by decide +kernel
theorem dX9_init_128 : decode cX9_init 128 = .ok (.iconst 5, 1) := by decide +kernel
theorem dX9_init_129 : decode cX9_init 129 = .ok (.bipush (-4), 2) := by decide +kernel
theorem dX9_init_131 : decode cX9_init 131 = .ok (.iastore, 1) := by decide +kernel
theorem dX9_init_132 : decode cX9_init 132 = .ok (.aload_n 0, 1) := by decide +kernel
theorem dX9_init_133 : decode cX9_init 133 = .ok (.getfield 7, 3) := by decide +kernel
theorem dX9_init_136 : decode cX9_init 136 = .ok (.bipush 6, 2) := by decide +kernel
theorem dX9_init_138 : decode cX9_init 138 = .ok (.bipush (-4), 2) := by decide +kernel
theorem dX9_init_140 : decode cX9_init 140 = .ok (.iastore, 1) := by decide +kernel
theorem dX9_init_141 : decode cX9_init 141 = .ok (.aload_n 0, 1) := by decide +kernel
theorem dX9_init_142 : decode cX9_init 142 = .ok (.getfield 7, 3) := by decide +kernel
theorem dX9_init_145 : decode cX9_init 145 = .ok (.bipush 8, 2) := by decide +kernel
theorem dX9_init_147 : decode cX9_init 147 = .ok (.bipush 20, 2) := by decide +kernel
theorem dX9_init_149 : decode cX9_init 149 = .ok (.iastore, 1) := by decide +kernel
theorem dX9_init_150 : decode cX9_init 150 = .ok (.iconst 0, 1) := by decide +kernel
theorem dX9_init_151 : decode cX9_init 151 = .ok (.istore_n 1, 1) := by decide +kernel
theorem dX9_init_152 : decode cX9_init 152 = .ok (.iload_n 1, 1) := by decide +kernel
theorem dX9_init_153 : decode cX9_init 153 = .ok (.iconst 4, 1) := by decide +kernel
theorem dX9_init_154 : decode cX9_init 154 = .ok (.if_icmp .ge 16, 3) := by decide +kernel
theorem dX9_init_157 : decode cX9_init 157 = .ok (.aload_n 0, 1) := by decide +kernel
theorem dX9_init_158 : decode cX9_init 158 = .ok (.getfield 19, 3) := by decide +kernel
theorem dX9_init_161 : decode cX9_init 161 = .ok (.iload_n 1, 1) := by decide +kernel
theorem dX9_init_162 : decode cX9_init 162 = .ok (.iconst (-1), 1) := by decide +kernel
theorem dX9_init_163 : decode cX9_init 163 = .ok (.iastore, 1) := by decide +kernel
theorem dX9_init_164 : decode cX9_init 164 = .ok (.iinc 1 1, 3) := by decide +kernel
theorem dX9_init_167 : decode cX9_init 167 = .ok (.goto (-15), 3) := by decide +kernel
theorem dX9_init_170 : decode cX9_init 170 = .ok (.return_, 1) := by decide +kernel
theorem dX9_in_0 : decode cX9_in 0 = .ok (.lload_n 0, 1) := by decide +kernel
theorem dX9_in_1 : decode cX9_in 1 = .ok (.lload_n 2, 1) := by decide +kernel
theorem dX9_in_2 : decode cX9_in 2 = .ok (.lcmp, 1) := by decide +kernel
theorem dX9_in_3 : decode cX9_in 3 = .ok (.ifCond .lt 14, 3) := by decide +kernel
theorem dX9_in_6 : decode cX9_in 6 = .ok (.lload_n 0, 1) := by decide +kernel
theorem dX9_in_7 : decode cX9_in 7 = .ok (.lload 4, 2) := by decide +kernel
theorem dX9_in_9 : decode cX9_in 9 = .ok (.lcmp, 1) := by decide +kernel
theorem dX9_in_10 : decode cX9_in 10 = .ok (.ifCond .gt 7, 3) := by decide +kernel
theorem dX9_in_13 : decode cX9_in 13 = .ok (.iconst 1, 1) := by decide +kernel
theorem dX9_in_14 : decode cX9_in 14 = .ok (.goto 4, 3) := by decide +kernel
theorem dX9_in_17 : decode cX9_in 17 = .ok (.iconst 0, 1) := by decide +kernel
theorem dX9_in_18 : decode cX9_in 18 = .ok (.ireturn, 1) := by decide +kernel
theorem dX9_isTale_0 : decode cX9_isTale 0 = .ok (.iload_n 1, 1) := by decide +kernel
theorem dX9_isTale_1 : decode cX9_isTale 1 = .ok (.i2l, 1) := by decide +kernel
theorem dX9_isTale_2 : decode cX9_isTale 2 = .ok (.lconst 0, 1) := by decide +kernel
theorem dX9_isTale_3 : decode cX9_isTale 3 = .ok (.aload_n 0, 1) := by decide +kernel
theorem dX9_isTale_4 : decode cX9_isTale 4 = .ok (.getfield 7, 3) := by decide +kernel
theorem dX9_isTale_7 : decode cX9_isTale 7 = .ok (.iconst 0, 1) := by decide +kernel
theorem dX9_isTale_8 : decode cX9_isTale 8 = .ok (.iaload, 1) := by decide +kernel
theorem dX9_isTale_9 : decode cX9_isTale 9 = .ok (.iconst 1, 1) := by decide +kernel
theorem dX9_isTale_10 : decode cX9_isTale 10 = .ok (.isub, 1) := by decide +kernel
theorem dX9_isTale_11 : decode cX9_isTale 11 = .ok (.i2l, 1) := by decide +kernel
theorem dX9_isTale_12 : decode cX9_isTale 12 = .ok (.invokestatic 52, 3) := by decide +kernel
theorem dX9_isTale_15 : decode cX9_isTale 15 = .ok (.ireturn, 1) := by decide +kernel
theorem dX9_isTeller_0 : decode cX9_isTeller 0 = .ok (.iload_n 1, 1) := by decide +kernel
theorem dX9_isTeller_1 : decode cX9_isTeller 1 = .ok (.i2l, 1) := by decide +kernel
theorem dX9_isTeller_2 : decode cX9_isTeller 2 = .ok (.lconst 0, 1) := by decide +kernel
theorem dX9_isTeller_3 : decode cX9_isTeller 3 = .ok (.aload_n 0, 1) := by decide +kernel
theorem dX9_isTeller_4 : decode cX9_isTeller 4 = .ok (.getfield 7, 3) := by decide +kernel
theorem dX9_isTeller_7 : decode cX9_isTeller 7 = .ok (.iconst 1, 1) := by decide +kernel
theorem dX9_isTeller_8 : decode cX9_isTeller 8 = .ok (.iaload, 1) := by decide +kernel
theorem dX9_isTeller_9 : decode cX9_isTeller 9 = .ok (.iconst 1, 1) := by decide +kernel
theorem dX9_isTeller_10 : decode cX9_isTeller 10 = .ok (.isub, 1) := by decide +kernel
theorem dX9_isTeller_11 : decode cX9_isTeller 11 = .ok (.i2l, 1) := by decide +kernel
theorem dX9_isTeller_12 : decode cX9_isTeller 12 = .ok (.invokestatic 52, 3) := by decide +kernel
theorem dX9_isTeller_15 : decode cX9_isTeller 15 = .ok (.ireturn, 1) := by decide +kernel
theorem dX9_isSpinner_0 : decode cX9_isSpinner 0 = .ok (.iload_n 1, 1) := by decide +kernel
theorem dX9_isSpinner_1 : decode cX9_isSpinner 1 = .ok (.i2l, 1) := by decide +kernel
theorem dX9_isSpinner_2 : decode cX9_isSpinner 2 = .ok (.lconst 0, 1) := by decide +kernel
theorem dX9_isSpinner_3 : decode cX9_isSpinner 3 = .ok (.aload_n 0, 1) := by decide +kernel
theorem dX9_isSpinner_4 : decode cX9_isSpinner 4 = .ok (.getfield 7, 3) := by decide +kernel
theorem dX9_isSpinner_7 : decode cX9_isSpinner 7 = .ok (.iconst 2, 1) := by decide +kernel
theorem dX9_isSpinner_8 : decode cX9_isSpinner 8 = .ok (.iaload, 1) := by decide +kernel
theorem dX9_isSpinner_9 : decode cX9_isSpinner 9 = .ok (.iconst 1, 1) := by decide +kernel
theorem dX9_isSpinner_10 : decode cX9_isSpinner 10 = .ok (.isub, 1) := by decide +kernel
theorem dX9_isSpinner_11 : decode cX9_isSpinner 11 = .ok (.i2l, 1) := by decide +kernel
theorem dX9_isSpinner_12 : decode cX9_isSpinner 12 = .ok (.invokestatic 52, 3) := by decide +kernel
theorem dX9_isSpinner_15 : decode cX9_isSpinner 15 = .ok (.ireturn, 1) := by decide +kernel
theorem dX9_type_0 : decode cX9_type 0 = .ok (.iload_n 3, 1) := by decide +kernel
theorem dX9_type_1 : decode cX9_type 1 = .ok (.i2l, 1) := by decide +kernel
theorem dX9_type_2 : decode cX9_type 2 = .ok (.lconst 1, 1) := by decide +kernel
theorem dX9_type_3 : decode cX9_type 3 = .ok (.ldc2_w 56, 3) := by decide +kernel
theorem dX9_type_6 : decode cX9_type 6 = .ok (.invokestatic 52, 3) := by decide +kernel
theorem dX9_type_9 : decode cX9_type 9 = .ok (.ifCond .ne 5, 3) := by decide +kernel
theorem dX9_type_12 : decode cX9_type 12 = .ok (.iconst (-1), 1) := by decide +kernel
theorem dX9_type_13 : decode cX9_type 13 = .ok (.ireturn, 1) := by decide +kernel
theorem dX9_type_14 : decode cX9_type 14 = .ok (.iconst 1, 1) := by decide +kernel
theorem dX9_type_15 : decode cX9_type 15 = .ok (.istore 4, 2) := by decide +kernel
theorem dX9_type_17 : decode cX9_type 17 = .ok (.iconst 0, 1) := by decide +kernel
theorem dX9_type_18 : decode cX9_type 18 = .ok (.istore 5, 2) := by decide +kernel
theorem dX9_type_20 : decode cX9_type 20 = .ok (.iload 5, 2) := by decide +kernel
theorem dX9_type_22 : decode cX9_type 22 = .ok (.iload_n 3, 1) := by decide +kernel
theorem dX9_type_23 : decode cX9_type 23 = .ok (.if_icmp .ge 44, 3) := by decide +kernel
theorem dX9_type_26 : decode cX9_type 26 = .ok (.iload 4, 2) := by decide +kernel
theorem dX9_type_28 : decode cX9_type 28 = .ok (.ifCond .eq 30, 3) := by decide +kernel
theorem dX9_type_31 : decode cX9_type 31 = .ok (.lload_n 1, 1) := by decide +kernel
theorem dX9_type_32 : decode cX9_type 32 = .ok (.bipush 8, 2) := by decide +kernel
theorem dX9_type_34 : decode cX9_type 34 = .ok (.iload 5, 2) := by decide +kernel
theorem dX9_type_36 : decode cX9_type 36 = .ok (.imul, 1) := by decide +kernel
theorem dX9_type_37 : decode cX9_type 37 = .ok (.lshr, 1) := by decide +kernel
theorem dX9_type_38 : decode cX9_type 38 = .ok (.ldc2_w 58, 3) := by decide +kernel
theorem dX9_type_41 : decode cX9_type 41 = .ok (.land, 1) := by decide +kernel
theorem dX9_type_42 : decode cX9_type 42 = .ok (.ldc2_w 60, 3) := by decide +kernel
theorem dX9_type_45 : decode cX9_type 45 = .ok (.ldc2_w 62, 3) := by decide +kernel
theorem dX9_type_48 : decode cX9_type 48 = .ok (.invokestatic 52, 3) := by decide +kernel
theorem dX9_type_51 : decode cX9_type 51 = .ok (.ifCond .eq 7, 3) := by decide +kernel
theorem dX9_type_54 : decode cX9_type 54 = .ok (.iconst 1, 1) := by decide +kernel
theorem dX9_type_55 : decode cX9_type 55 = .ok (.goto 4, 3) := by decide +kernel
theorem dX9_type_58 : decode cX9_type 58 = .ok (.iconst 0, 1) := by decide +kernel
theorem dX9_type_59 : decode cX9_type 59 = .ok (.istore 4, 2) := by decide +kernel
theorem dX9_type_61 : decode cX9_type 61 = .ok (.iinc 5 1, 3) := by decide +kernel
theorem dX9_type_64 : decode cX9_type 64 = .ok (.goto (-44), 3) := by decide +kernel
theorem dX9_type_67 : decode cX9_type 67 = .ok (.iload 4, 2) := by decide +kernel
theorem dX9_type_69 : decode cX9_type 69 = .ok (.ifCond .ne 5, 3) := by decide +kernel
theorem dX9_type_72 : decode cX9_type 72 = .ok (.iconst (-1), 1) := by decide +kernel
theorem dX9_type_73 : decode cX9_type 73 = .ok (.ireturn, 1) := by decide +kernel
theorem dX9_type_74 : decode cX9_type 74 = .ok (.aload_n 0, 1) := by decide +kernel
theorem dX9_type_75 : decode cX9_type 75 = .ok (.getfield 64, 3) := by decide +kernel
theorem dX9_type_78 : decode cX9_type 78 = .ok (.iload_n 3, 1) := by decide +kernel
theorem dX9_type_79 : decode cX9_type 79 = .ok (.iadd, 1) := by decide +kernel
theorem dX9_type_80 : decode cX9_type 80 = .ok (.bipush 24, 2) := by decide +kernel
theorem dX9_type_82 : decode cX9_type 82 = .ok (.if_icmp .le 6, 3) := by decide +kernel
theorem dX9_type_85 : decode cX9_type 85 = .ok (.bipush (-3), 2) := by decide +kernel
theorem dX9_type_87 : decode cX9_type 87 = .ok (.ireturn, 1) := by decide +kernel
theorem dX9_type_88 : decode cX9_type 88 = .ok (.iload_n 3, 1) := by decide +kernel
theorem dX9_type_89 : decode cX9_type 89 = .ok (.iconst 1, 1) := by decide +kernel
theorem dX9_type_90 : decode cX9_type 90 = .ok (.isub, 1) := by decide +kernel
theorem dX9_type_91 : decode cX9_type 91 = .ok (.istore 5, 2) := by decide +kernel
theorem dX9_type_93 : decode cX9_type 93 = .ok (.iload 5, 2) := by decide +kernel
theorem dX9_type_95 : decode cX9_type 95 = .ok (.ifCond .lt 40, 3) := by decide +kernel
theorem dX9_type_98 : decode cX9_type 98 = .ok (.aload_n 0, 1) := by decide +kernel
theorem dX9_type_99 : decode cX9_type 99 = .ok (.getfield 16, 3) := by decide +kernel
theorem dX9_type_102 : decode cX9_type 102 = .ok (.aload_n 0, 1) := by decide +kernel
theorem dX9_type_103 : decode cX9_type 103 = .ok (.getfield 64, 3) := by decide +kernel
theorem dX9_type_106 : decode cX9_type 106 = .ok (.lload_n 1, 1) := by decide +kernel
theorem dX9_type_107 : decode cX9_type 107 = .ok (.bipush 8, 2) := by decide +kernel
theorem dX9_type_109 : decode cX9_type 109 = .ok (.iload 5, 2) := by decide +kernel
theorem dX9_type_111 : decode cX9_type 111 = .ok (.imul, 1) := by decide +kernel
theorem dX9_type_112 : decode cX9_type 112 = .ok (.lshr, 1) := by decide +kernel
theorem dX9_type_113 : decode cX9_type 113 = .ok (.ldc2_w 58, 3) := by decide +kernel
theorem dX9_type_116 : decode cX9_type 116 = .ok (.land, 1) := by decide +kernel
theorem dX9_type_117 : decode cX9_type 117 = .ok (.l2i, 1) := by decide +kernel
theorem dX9_type_118 : decode cX9_type 118 = .ok (.iastore, 1) := by decide +kernel
theorem dX9_type_119 : decode cX9_type 119 = .ok (.aload_n 0, 1) := by decide +kernel
theorem dX9_type_120 : decode cX9_type 120 = .ok (.dup, 1) := by decide +kernel
theorem dX9_type_121 : decode cX9_type 121 = .ok (.getfield 64, 3) := by decide +kernel
theorem dX9_type_124 : decode cX9_type 124 = .ok (.iconst 1, 1) := by decide +kernel
theorem dX9_type_125 : decode cX9_type 125 = .ok (.iadd, 1) := by decide +kernel
theorem dX9_type_126 : decode cX9_type 126 = .ok (.putfield 64, 3) := by decide +kernel
theorem dX9_type_129 : decode cX9_type 129 = .ok (.iinc 5 (-1), 3) := by decide +kernel
theorem dX9_type_132 : decode cX9_type 132 = .ok (.goto (-39), 3) := by decide +kernel
theorem dX9_type_135 : decode cX9_type 135 = .ok (.aload_n 0, 1) := by decide +kernel
theorem dX9_type_136 : decode cX9_type 136 = .ok (.getfield 64, 3) := by decide +kernel
theorem dX9_type_139 : decode cX9_type 139 = .ok (.ireturn, 1) := by decide +kernel
theorem dX9_tale_0 : decode cX9_tale 0 = .ok (.aload_n 0, 1) := by decide +kernel
theorem dX9_tale_1 : decode cX9_tale 1 = .ok (.getfield 64, 3) := by decide +kernel
theorem dX9_tale_4 : decode cX9_tale 4 = .ok (.istore_n 1, 1) := by decide +kernel
theorem dX9_tale_5 : decode cX9_tale 5 = .ok (.aload_n 0, 1) := by decide +kernel
theorem dX9_tale_6 : decode cX9_tale 6 = .ok (.iconst 0, 1) := by decide +kernel
theorem dX9_tale_7 : decode cX9_tale 7 = .ok (.putfield 64, 3) := by decide +kernel
theorem dX9_tale_10 : decode cX9_tale 10 = .ok (.iconst 0, 1) := by decide +kernel
theorem dX9_tale_11 : decode cX9_tale 11 = .ok (.istore_n 2, 1) := by decide +kernel
theorem dX9_tale_12 : decode cX9_tale 12 = .ok (.bipush (-4), 2) := by decide +kernel
theorem dX9_tale_14 : decode cX9_tale 14 = .ok (.istore_n 3, 1) := by decide +kernel
theorem dX9_tale_15 : decode cX9_tale 15 = .ok (.iconst 0, 1) := by decide +kernel
theorem dX9_tale_16 : decode cX9_tale 16 = .ok (.istore 4, 2) := by decide +kernel
theorem dX9_tale_18 : decode cX9_tale 18 = .ok (.iload 4, 2) := by decide +kernel
theorem dX9_tale_20 : decode cX9_tale 20 = .ok (.iload_n 1, 1) := by decide +kernel
theorem dX9_tale_21 : decode cX9_tale 21 = .ok (.if_icmp .ge 62, 3) := by decide +kernel
theorem dX9_tale_24 : decode cX9_tale 24 = .ok (.iload_n 3, 1) := by decide +kernel
theorem dX9_tale_25 : decode cX9_tale 25 = .ok (.bipush (-4), 2) := by decide +kernel
theorem dX9_tale_27 : decode cX9_tale 27 = .ok (.if_icmp .ne 56, 3) := by decide +kernel
theorem dX9_tale_30 : decode cX9_tale 30 = .ok (.aload_n 0, 1) := by decide +kernel
theorem dX9_tale_31 : decode cX9_tale 31 = .ok (.getfield 16, 3) := by decide +kernel
theorem dX9_tale_34 : decode cX9_tale 34 = .ok (.iload 4, 2) := by decide +kernel
theorem dX9_tale_36 : decode cX9_tale 36 = .ok (.iaload, 1) := by decide +kernel
theorem dX9_tale_37 : decode cX9_tale 37 = .ok (.bipush 32, 2) := by decide +kernel
theorem dX9_tale_39 : decode cX9_tale 39 = .ok (.if_icmp .ne 6, 3) := by decide +kernel
theorem dX9_tale_42 : decode cX9_tale 42 = .ok (.goto 35, 3) := by decide +kernel
theorem dX9_tale_45 : decode cX9_tale 45 = .ok (.iload_n 2, 1) := by decide +kernel
theorem dX9_tale_46 : decode cX9_tale 46 = .ok (.bipush 9, 2) := by decide +kernel
theorem dX9_tale_48 : decode cX9_tale 48 = .ok (.if_icmp .eq 23, 3) := by decide +kernel
theorem dX9_tale_51 : decode cX9_tale 51 = .ok (.aload_n 0, 1) := by decide +kernel
theorem dX9_tale_52 : decode cX9_tale 52 = .ok (.getfield 16, 3) := by decide +kernel
theorem dX9_tale_55 : decode cX9_tale 55 = .ok (.iload 4, 2) := by decide +kernel
theorem dX9_tale_57 : decode cX9_tale 57 = .ok (.iaload, 1) := by decide +kernel
theorem dX9_tale_58 : decode cX9_tale 58 = .ok (.i2l, 1) := by decide +kernel
theorem dX9_tale_59 : decode cX9_tale 59 = .ok (.ldc2_w 68, 3) := by decide +kernel
theorem dX9_tale_62 : decode cX9_tale 62 = .ok (.ldc2_w 70, 3) := by decide +kernel
theorem dX9_tale_65 : decode cX9_tale 65 = .ok (.invokestatic 52, 3) := by decide +kernel
theorem dX9_tale_68 : decode cX9_tale 68 = .ok (.ifCond .ne 6, 3) := by decide +kernel
theorem dX9_tale_71 : decode cX9_tale 71 = .ok (.iload 4, 2) := by decide +kernel
theorem dX9_tale_73 : decode cX9_tale 73 = .ok (.istore_n 3, 1) := by decide +kernel
theorem dX9_tale_74 : decode cX9_tale 74 = .ok (.iinc 2 1, 3) := by decide +kernel
theorem dX9_tale_77 : decode cX9_tale 77 = .ok (.iinc 4 1, 3) := by decide +kernel
theorem dX9_tale_80 : decode cX9_tale 80 = .ok (.goto (-62), 3) := by decide +kernel
theorem dX9_tale_83 : decode cX9_tale 83 = .ok (.iload_n 3, 1) := by decide +kernel
theorem dX9_tale_84 : decode cX9_tale 84 = .ok (.bipush (-4), 2) := by decide +kernel
theorem dX9_tale_86 : decode cX9_tale 86 = .ok (.if_icmp .ne 11, 3) := by decide +kernel
theorem dX9_tale_89 : decode cX9_tale 89 = .ok (.iload_n 2, 1) := by decide +kernel
theorem dX9_tale_90 : decode cX9_tale 90 = .ok (.ifCond .ne 7, 3) := by decide +kernel
theorem dX9_tale_93 : decode cX9_tale 93 = .ok (.iload_n 1, 1) := by decide +kernel
theorem dX9_tale_94 : decode cX9_tale 94 = .ok (.goto 4, 3) := by decide +kernel
theorem dX9_tale_97 : decode cX9_tale 97 = .ok (.iload_n 3, 1) := by decide +kernel
theorem dX9_tale_98 : decode cX9_tale 98 = .ok (.istore_n 3, 1) := by decide +kernel
theorem dX9_tale_99 : decode cX9_tale 99 = .ok (.iload_n 3, 1) := by decide +kernel
theorem dX9_tale_100 : decode cX9_tale 100 = .ok (.bipush (-4), 2) := by decide +kernel
theorem dX9_tale_102 : decode cX9_tale 102 = .ok (.if_icmp .eq 8, 3) := by decide +kernel
theorem dX9_tale_105 : decode cX9_tale 105 = .ok (.bipush (-20), 2) := by decide +kernel
theorem dX9_tale_107 : decode cX9_tale 107 = .ok (.iload_n 3, 1) := by decide +kernel
theorem dX9_tale_108 : decode cX9_tale 108 = .ok (.isub, 1) := by decide +kernel
theorem dX9_tale_109 : decode cX9_tale 109 = .ok (.ireturn, 1) := by decide +kernel
theorem dX9_tale_110 : decode cX9_tale 110 = .ok (.aload_n 0, 1) := by decide +kernel
theorem dX9_tale_111 : decode cX9_tale 111 = .ok (.getfield 7, 3) := by decide +kernel
theorem dX9_tale_114 : decode cX9_tale 114 = .ok (.iconst 0, 1) := by decide +kernel
theorem dX9_tale_115 : decode cX9_tale 115 = .ok (.iaload, 1) := by decide +kernel
theorem dX9_tale_116 : decode cX9_tale 116 = .ok (.istore 4, 2) := by decide +kernel
theorem dX9_tale_118 : decode cX9_tale 118 = .ok (.iload 4, 2) := by decide +kernel
theorem dX9_tale_120 : decode cX9_tale 120 = .ok (.bipush 8, 2) := by decide +kernel
theorem dX9_tale_122 : decode cX9_tale 122 = .ok (.if_icmp .ne 6, 3) := by decide +kernel
theorem dX9_tale_125 : decode cX9_tale 125 = .ok (.bipush (-3), 2) := by decide +kernel
theorem dX9_tale_127 : decode cX9_tale 127 = .ok (.ireturn, 1) := by decide +kernel
theorem dX9_tale_128 : decode cX9_tale 128 = .ok (.aload_n 0, 1) := by decide +kernel
theorem dX9_tale_129 : decode cX9_tale 129 = .ok (.getfield 7, 3) := by decide +kernel
theorem dX9_tale_132 : decode cX9_tale 132 = .ok (.bipush 81, 2) := by decide +kernel
theorem dX9_tale_134 : decode cX9_tale 134 = .ok (.iload 4, 2) := by decide +kernel
theorem dX9_tale_136 : decode cX9_tale 136 = .ok (.iadd, 1) := by decide +kernel
theorem dX9_tale_137 : decode cX9_tale 137 = .ok (.iload_n 2, 1) := by decide +kernel
theorem dX9_tale_138 : decode cX9_tale 138 = .ok (.iastore, 1) := by decide +kernel
theorem dX9_tale_139 : decode cX9_tale 139 = .ok (.iconst 0, 1) := by decide +kernel
theorem dX9_tale_140 : decode cX9_tale 140 = .ok (.istore 5, 2) := by decide +kernel
theorem dX9_tale_142 : decode cX9_tale 142 = .ok (.iconst 0, 1) := by decide +kernel
theorem dX9_tale_143 : decode cX9_tale 143 = .ok (.istore 6, 2) := by decide +kernel
theorem dX9_tale_145 : decode cX9_tale 145 = .ok (.iload 6, 2) := by decide +kernel
theorem dX9_tale_147 : decode cX9_tale 147 = .ok (.iload_n 1, 1) := by decide +kernel
theorem dX9_tale_148 : decode cX9_tale 148 = .ok (.if_icmp .ge 50, 3) := by decide +kernel
theorem dX9_tale_151 : decode cX9_tale 151 = .ok (.aload_n 0, 1) := by decide +kernel
theorem dX9_tale_152 : decode cX9_tale 152 = .ok (.getfield 16, 3) := by decide +kernel
theorem dX9_tale_155 : decode cX9_tale 155 = .ok (.iload 6, 2) := by decide +kernel
theorem dX9_tale_157 : decode cX9_tale 157 = .ok (.iaload, 1) := by decide +kernel
theorem dX9_tale_158 : decode cX9_tale 158 = .ok (.bipush 32, 2) := by decide +kernel
theorem dX9_tale_160 : decode cX9_tale 160 = .ok (.if_icmp .eq 32, 3) := by decide +kernel
theorem dX9_tale_163 : decode cX9_tale 163 = .ok (.aload_n 0, 1) := by decide +kernel
theorem dX9_tale_164 : decode cX9_tale 164 = .ok (.getfield 7, 3) := by decide +kernel
theorem dX9_tale_167 : decode cX9_tale 167 = .ok (.bipush 9, 2) := by decide +kernel
theorem dX9_tale_169 : decode cX9_tale 169 = .ok (.bipush 9, 2) := by decide +kernel
theorem dX9_tale_171 : decode cX9_tale 171 = .ok (.iload 4, 2) := by decide +kernel
theorem dX9_tale_173 : decode cX9_tale 173 = .ok (.imul, 1) := by decide +kernel
theorem dX9_tale_174 : decode cX9_tale 174 = .ok (.iadd, 1) := by decide +kernel
theorem dX9_tale_175 : decode cX9_tale 175 = .ok (.iload 5, 2) := by decide +kernel
theorem dX9_tale_177 : decode cX9_tale 177 = .ok (.iadd, 1) := by decide +kernel
theorem dX9_tale_178 : decode cX9_tale 178 = .ok (.aload_n 0, 1) := by decide +kernel
theorem dX9_tale_179 : decode cX9_tale 179 = .ok (.getfield 16, 3) := by decide +kernel
theorem dX9_tale_182 : decode cX9_tale 182 = .ok (.iload 6, 2) := by decide +kernel
theorem dX9_tale_184 : decode cX9_tale 184 = .ok (.iaload, 1) := by decide +kernel
theorem dX9_tale_185 : decode cX9_tale 185 = .ok (.bipush 48, 2) := by decide +kernel
theorem dX9_tale_187 : decode cX9_tale 187 = .ok (.isub, 1) := by decide +kernel
theorem dX9_tale_188 : decode cX9_tale 188 = .ok (.iastore, 1) := by decide +kernel
theorem dX9_tale_189 : decode cX9_tale 189 = .ok (.iinc 5 1, 3) := by decide +kernel
theorem dX9_tale_192 : decode cX9_tale 192 = .ok (.iinc 6 1, 3) := by decide +kernel
theorem dX9_tale_195 : decode cX9_tale 195 = .ok (.goto (-50), 3) := by decide +kernel
theorem dX9_tale_198 : decode cX9_tale 198 = .ok (.aload_n 0, 1) := by decide +kernel
theorem dX9_tale_199 : decode cX9_tale 199 = .ok (.getfield 7, 3) := by decide +kernel
theorem dX9_tale_202 : decode cX9_tale 202 = .ok (.iconst 0, 1) := by decide +kernel
theorem dX9_tale_203 : decode cX9_tale 203 = .ok (.iload 4, 2) := by decide +kernel
theorem dX9_tale_205 : decode cX9_tale 205 = .ok (.iconst 1, 1) := by decide +kernel
theorem dX9_tale_206 : decode cX9_tale 206 = .ok (.iadd, 1) := by decide +kernel
theorem dX9_tale_207 : decode cX9_tale 207 = .ok (.iastore, 1) := by decide +kernel
theorem dX9_tale_208 : decode cX9_tale 208 = .ok (.iload 4, 2) := by decide +kernel
theorem dX9_tale_210 : decode cX9_tale 210 = .ok (.ireturn, 1) := by decide +kernel
theorem dX9_isSentence_0 : decode cX9_isSentence 0 = .ok (.aload_n 0, 1) := by decide +kernel
theorem dX9_isSentence_1 : decode cX9_isSentence 1 = .ok (.iload_n 1, 1) := by decide +kernel
theorem dX9_isSentence_2 : decode cX9_isSentence 2 = .ok (.invokevirtual 72, 3) := by decide +kernel
theorem dX9_isSentence_5 : decode cX9_isSentence 5 = .ok (.ifCond .eq 28, 3) := by decide +kernel
theorem dX9_isSentence_8 : decode cX9_isSentence 8 = .ok (.iload_n 2, 1) := by decide +kernel
theorem dX9_isSentence_9 : decode cX9_isSentence 9 = .ok (.i2l, 1) := by decide +kernel
theorem dX9_isSentence_10 : decode cX9_isSentence 10 = .ok (.lconst 0, 1) := by decide +kernel
theorem dX9_isSentence_11 : decode cX9_isSentence 11 = .ok (.aload_n 0, 1) := by decide +kernel
theorem dX9_isSentence_12 : decode cX9_isSentence 12 = .ok (.getfield 7, 3) := by decide +kernel
theorem dX9_isSentence_15 : decode cX9_isSentence 15 = .ok (.bipush 81, 2) := by decide +kernel
theorem dX9_isSentence_17 : decode cX9_isSentence 17 = .ok (.iload_n 1, 1) := by decide +kernel
theorem dX9_isSentence_18 : decode cX9_isSentence 18 = .ok (.iadd, 1) := by decide +kernel
theorem dX9_isSentence_19 : decode cX9_isSentence 19 = .ok (.iaload, 1) := by decide +kernel
theorem dX9_isSentence_20 : decode cX9_isSentence 20 = .ok (.iconst 1, 1) := by decide +kernel
theorem dX9_isSentence_21 : decode cX9_isSentence 21 = .ok (.isub, 1) := by decide +kernel
theorem dX9_isSentence_22 : decode cX9_isSentence 22 = .ok (.i2l, 1) := by decide +kernel
theorem dX9_isSentence_23 : decode cX9_isSentence 23 = .ok (.invokestatic 52, 3) := by decide +kernel
theorem dX9_isSentence_26 : decode cX9_isSentence 26 = .ok (.ifCond .eq 7, 3) := by decide +kernel
theorem dX9_isSentence_29 : decode cX9_isSentence 29 = .ok (.iconst 1, 1) := by decide +kernel
theorem dX9_isSentence_30 : decode cX9_isSentence 30 = .ok (.goto 4, 3) := by decide +kernel
theorem dX9_isSentence_33 : decode cX9_isSentence 33 = .ok (.iconst 0, 1) := by decide +kernel
theorem dX9_isSentence_34 : decode cX9_isSentence 34 = .ok (.ireturn, 1) := by decide +kernel
theorem dX9_change_0 : decode cX9_change 0 = .ok (.aload_n 0, 1) := by decide +kernel
theorem dX9_change_1 : decode cX9_change 1 = .ok (.iload_n 1, 1) := by decide +kernel
theorem dX9_change_2 : decode cX9_change 2 = .ok (.iload_n 2, 1) := by decide +kernel
theorem dX9_change_3 : decode cX9_change 3 = .ok (.invokevirtual 76, 3) := by decide +kernel
theorem dX9_change_6 : decode cX9_change 6 = .ok (.ifCond .eq 15, 3) := by decide +kernel
theorem dX9_change_9 : decode cX9_change 9 = .ok (.iload_n 3, 1) := by decide +kernel
theorem dX9_change_10 : decode cX9_change 10 = .ok (.i2l, 1) := by decide +kernel
theorem dX9_change_11 : decode cX9_change 11 = .ok (.lconst 0, 1) := by decide +kernel
theorem dX9_change_12 : decode cX9_change 12 = .ok (.ldc2_w 80, 3) := by decide +kernel
theorem dX9_change_15 : decode cX9_change 15 = .ok (.invokestatic 52, 3) := by decide +kernel
theorem dX9_change_18 : decode cX9_change 18 = .ok (.ifCond .ne 5, 3) := by decide +kernel
theorem dX9_change_21 : decode cX9_change 21 = .ok (.iconst (-1), 1) := by decide +kernel
theorem dX9_change_22 : decode cX9_change 22 = .ok (.ireturn, 1) := by decide +kernel
theorem dX9_change_23 : decode cX9_change 23 = .ok (.aload_n 0, 1) := by decide +kernel
theorem dX9_change_24 : decode cX9_change 24 = .ok (.getfield 7, 3) := by decide +kernel
theorem dX9_change_27 : decode cX9_change 27 = .ok (.iconst 4, 1) := by decide +kernel
theorem dX9_change_28 : decode cX9_change 28 = .ok (.iaload, 1) := by decide +kernel
theorem dX9_change_29 : decode cX9_change 29 = .ok (.iload_n 1, 1) := by decide +kernel
theorem dX9_change_30 : decode cX9_change 30 = .ok (.if_icmp .ne 6, 3) := by decide +kernel
theorem dX9_change_33 : decode cX9_change 33 = .ok (.bipush (-2), 2) := by decide +kernel
theorem dX9_change_35 : decode cX9_change 35 = .ok (.ireturn, 1) := by decide +kernel
theorem dX9_change_36 : decode cX9_change 36 = .ok (.aload_n 0, 1) := by decide +kernel
theorem dX9_change_37 : decode cX9_change 37 = .ok (.getfield 7, 3) := by decide +kernel
theorem dX9_change_40 : decode cX9_change 40 = .ok (.bipush 9, 2) := by decide +kernel
theorem dX9_change_42 : decode cX9_change 42 = .ok (.bipush 9, 2) := by decide +kernel
theorem dX9_change_44 : decode cX9_change 44 = .ok (.iload_n 1, 1) := by decide +kernel
theorem dX9_change_45 : decode cX9_change 45 = .ok (.imul, 1) := by decide +kernel
theorem dX9_change_46 : decode cX9_change 46 = .ok (.iadd, 1) := by decide +kernel
theorem dX9_change_47 : decode cX9_change 47 = .ok (.iload_n 2, 1) := by decide +kernel
theorem dX9_change_48 : decode cX9_change 48 = .ok (.iadd, 1) := by decide +kernel
theorem dX9_change_49 : decode cX9_change 49 = .ok (.iaload, 1) := by decide +kernel
theorem dX9_change_50 : decode cX9_change 50 = .ok (.istore 4, 2) := by decide +kernel
theorem dX9_change_52 : decode cX9_change 52 = .ok (.aload_n 0, 1) := by decide +kernel
theorem dX9_change_53 : decode cX9_change 53 = .ok (.getfield 7, 3) := by decide +kernel
theorem dX9_change_56 : decode cX9_change 56 = .ok (.bipush 9, 2) := by decide +kernel
theorem dX9_change_58 : decode cX9_change 58 = .ok (.bipush 9, 2) := by decide +kernel
theorem dX9_change_60 : decode cX9_change 60 = .ok (.iload_n 1, 1) := by decide +kernel
theorem dX9_change_61 : decode cX9_change 61 = .ok (.imul, 1) := by decide +kernel
theorem dX9_change_62 : decode cX9_change 62 = .ok (.iadd, 1) := by decide +kernel
theorem dX9_change_63 : decode cX9_change 63 = .ok (.iload_n 2, 1) := by decide +kernel
theorem dX9_change_64 : decode cX9_change 64 = .ok (.iadd, 1) := by decide +kernel
theorem dX9_change_65 : decode cX9_change 65 = .ok (.iload_n 3, 1) := by decide +kernel
theorem dX9_change_66 : decode cX9_change 66 = .ok (.iastore, 1) := by decide +kernel
theorem dX9_change_67 : decode cX9_change 67 = .ok (.iload 4, 2) := by decide +kernel
theorem dX9_change_69 : decode cX9_change 69 = .ok (.ireturn, 1) := by decide +kernel
theorem dX9_teller_0 : decode cX9_teller 0 = .ok (.iload_n 1, 1) := by decide +kernel
theorem dX9_teller_1 : decode cX9_teller 1 = .ok (.i2l, 1) := by decide +kernel
theorem dX9_teller_2 : decode cX9_teller 2 = .ok (.lconst 0, 1) := by decide +kernel
theorem dX9_teller_3 : decode cX9_teller 3 = .ok (.ldc2_w 82, 3) := by decide +kernel
theorem dX9_teller_6 : decode cX9_teller 6 = .ok (.invokestatic 52, 3) := by decide +kernel
theorem dX9_teller_9 : decode cX9_teller 9 = .ok (.ifCond .ne 5, 3) := by decide +kernel
theorem dX9_teller_12 : decode cX9_teller 12 = .ok (.iconst (-1), 1) := by decide +kernel
theorem dX9_teller_13 : decode cX9_teller 13 = .ok (.ireturn, 1) := by decide +kernel
theorem dX9_teller_14 : decode cX9_teller 14 = .ok (.aload_n 0, 1) := by decide +kernel
theorem dX9_teller_15 : decode cX9_teller 15 = .ok (.getfield 7, 3) := by decide +kernel
theorem dX9_teller_18 : decode cX9_teller 18 = .ok (.iconst 1, 1) := by decide +kernel
theorem dX9_teller_19 : decode cX9_teller 19 = .ok (.iaload, 1) := by decide +kernel
theorem dX9_teller_20 : decode cX9_teller 20 = .ok (.istore_n 2, 1) := by decide +kernel
theorem dX9_teller_21 : decode cX9_teller 21 = .ok (.iload_n 2, 1) := by decide +kernel
theorem dX9_teller_22 : decode cX9_teller 22 = .ok (.iconst 4, 1) := by decide +kernel
theorem dX9_teller_23 : decode cX9_teller 23 = .ok (.if_icmp .ne 6, 3) := by decide +kernel
theorem dX9_teller_26 : decode cX9_teller 26 = .ok (.bipush (-3), 2) := by decide +kernel
theorem dX9_teller_28 : decode cX9_teller 28 = .ok (.ireturn, 1) := by decide +kernel
theorem dX9_teller_29 : decode cX9_teller 29 = .ok (.aload_n 0, 1) := by decide +kernel
theorem dX9_teller_30 : decode cX9_teller 30 = .ok (.getfield 7, 3) := by decide +kernel
theorem dX9_teller_33 : decode cX9_teller 33 = .ok (.bipush 89, 2) := by decide +kernel
theorem dX9_teller_35 : decode cX9_teller 35 = .ok (.iload_n 2, 1) := by decide +kernel
theorem dX9_teller_36 : decode cX9_teller 36 = .ok (.iadd, 1) := by decide +kernel
theorem dX9_teller_37 : decode cX9_teller 37 = .ok (.iload_n 1, 1) := by decide +kernel
theorem dX9_teller_38 : decode cX9_teller 38 = .ok (.iastore, 1) := by decide +kernel
theorem dX9_teller_39 : decode cX9_teller 39 = .ok (.aload_n 0, 1) := by decide +kernel
theorem dX9_teller_40 : decode cX9_teller 40 = .ok (.getfield 7, 3) := by decide +kernel
theorem dX9_teller_43 : decode cX9_teller 43 = .ok (.iconst 1, 1) := by decide +kernel
theorem dX9_teller_44 : decode cX9_teller 44 = .ok (.iload_n 2, 1) := by decide +kernel
theorem dX9_teller_45 : decode cX9_teller 45 = .ok (.iconst 1, 1) := by decide +kernel
theorem dX9_teller_46 : decode cX9_teller 46 = .ok (.iadd, 1) := by decide +kernel
theorem dX9_teller_47 : decode cX9_teller 47 = .ok (.iastore, 1) := by decide +kernel
theorem dX9_teller_48 : decode cX9_teller 48 = .ok (.iload_n 2, 1) := by decide +kernel
theorem dX9_teller_49 : decode cX9_teller 49 = .ok (.ireturn, 1) := by decide +kernel
theorem dX9_spinner_0 : decode cX9_spinner 0 = .ok (.aload_n 0, 1) := by decide +kernel
theorem dX9_spinner_1 : decode cX9_spinner 1 = .ok (.getfield 7, 3) := by decide +kernel
theorem dX9_spinner_4 : decode cX9_spinner 4 = .ok (.iconst 2, 1) := by decide +kernel
theorem dX9_spinner_5 : decode cX9_spinner 5 = .ok (.iaload, 1) := by decide +kernel
theorem dX9_spinner_6 : decode cX9_spinner 6 = .ok (.istore_n 1, 1) := by decide +kernel
theorem dX9_spinner_7 : decode cX9_spinner 7 = .ok (.iload_n 1, 1) := by decide +kernel
theorem dX9_spinner_8 : decode cX9_spinner 8 = .ok (.iconst 4, 1) := by decide +kernel
theorem dX9_spinner_9 : decode cX9_spinner 9 = .ok (.if_icmp .ne 6, 3) := by decide +kernel
theorem dX9_spinner_12 : decode cX9_spinner 12 = .ok (.bipush (-3), 2) := by decide +kernel
theorem dX9_spinner_14 : decode cX9_spinner 14 = .ok (.ireturn, 1) := by decide +kernel
theorem dX9_spinner_15 : decode cX9_spinner 15 = .ok (.iconst 0, 1) := by decide +kernel
theorem dX9_spinner_16 : decode cX9_spinner 16 = .ok (.istore_n 2, 1) := by decide +kernel
theorem dX9_spinner_17 : decode cX9_spinner 17 = .ok (.iload_n 2, 1) := by decide +kernel
theorem dX9_spinner_18 : decode cX9_spinner 18 = .ok (.iconst 4, 1) := by decide +kernel
theorem dX9_spinner_19 : decode cX9_spinner 19 = .ok (.if_icmp .ge 23, 3) := by decide +kernel
theorem dX9_spinner_22 : decode cX9_spinner 22 = .ok (.aload_n 0, 1) := by decide +kernel
theorem dX9_spinner_23 : decode cX9_spinner 23 = .ok (.getfield 7, 3) := by decide +kernel
theorem dX9_spinner_26 : decode cX9_spinner 26 = .ok (.bipush 93, 2) := by decide +kernel
theorem dX9_spinner_28 : decode cX9_spinner 28 = .ok (.iconst 4, 1) := by decide +kernel
theorem dX9_spinner_29 : decode cX9_spinner 29 = .ok (.iload_n 1, 1) := by decide +kernel
theorem dX9_spinner_30 : decode cX9_spinner 30 = .ok (.imul, 1) := by decide +kernel
theorem dX9_spinner_31 : decode cX9_spinner 31 = .ok (.iadd, 1) := by decide +kernel
theorem dX9_spinner_32 : decode cX9_spinner 32 = .ok (.iload_n 2, 1) := by decide +kernel
theorem dX9_spinner_33 : decode cX9_spinner 33 = .ok (.iadd, 1) := by decide +kernel
theorem dX9_spinner_34 : decode cX9_spinner 34 = .ok (.iconst 0, 1) := by decide +kernel
theorem dX9_spinner_35 : decode cX9_spinner 35 = .ok (.iastore, 1) := by decide +kernel
theorem dX9_spinner_36 : decode cX9_spinner 36 = .ok (.iinc 2 1, 3) := by decide +kernel
theorem dX9_spinner_39 : decode cX9_spinner 39 = .ok (.goto (-22), 3) := by decide +kernel
theorem dX9_spinner_42 : decode cX9_spinner 42 = .ok (.iconst 0, 1) := by decide +kernel
theorem dX9_spinner_43 : decode cX9_spinner 43 = .ok (.istore_n 2, 1) := by decide +kernel
theorem dX9_spinner_44 : decode cX9_spinner 44 = .ok (.iload_n 2, 1) := by decide +kernel
theorem dX9_spinner_45 : decode cX9_spinner 45 = .ok (.bipush 8, 2) := by decide +kernel
theorem dX9_spinner_47 : decode cX9_spinner 47 = .ok (.if_icmp .ge 24, 3) := by decide +kernel
theorem dX9_spinner_50 : decode cX9_spinner 50 = .ok (.aload_n 0, 1) := by decide +kernel
theorem dX9_spinner_51 : decode cX9_spinner 51 = .ok (.getfield 7, 3) := by decide +kernel
theorem dX9_spinner_54 : decode cX9_spinner 54 = .ok (.bipush 109, 2) := by decide +kernel
theorem dX9_spinner_56 : decode cX9_spinner 56 = .ok (.bipush 8, 2) := by decide +kernel
theorem dX9_spinner_58 : decode cX9_spinner 58 = .ok (.iload_n 1, 1) := by decide +kernel
theorem dX9_spinner_59 : decode cX9_spinner 59 = .ok (.imul, 1) := by decide +kernel
theorem dX9_spinner_60 : decode cX9_spinner 60 = .ok (.iadd, 1) := by decide +kernel
theorem dX9_spinner_61 : decode cX9_spinner 61 = .ok (.iload_n 2, 1) := by decide +kernel
theorem dX9_spinner_62 : decode cX9_spinner 62 = .ok (.iadd, 1) := by decide +kernel
theorem dX9_spinner_63 : decode cX9_spinner 63 = .ok (.iconst 0, 1) := by decide +kernel
theorem dX9_spinner_64 : decode cX9_spinner 64 = .ok (.iastore, 1) := by decide +kernel
theorem dX9_spinner_65 : decode cX9_spinner 65 = .ok (.iinc 2 1, 3) := by decide +kernel
theorem dX9_spinner_68 : decode cX9_spinner 68 = .ok (.goto (-24), 3) := by decide +kernel
theorem dX9_spinner_71 : decode cX9_spinner 71 = .ok (.aload_n 0, 1) := by decide +kernel
theorem dX9_spinner_72 : decode cX9_spinner 72 = .ok (.getfield 7, 3) := by decide +kernel
theorem dX9_spinner_75 : decode cX9_spinner 75 = .ok (.iconst 2, 1) := by decide +kernel
theorem dX9_spinner_76 : decode cX9_spinner 76 = .ok (.iload_n 1, 1) := by decide +kernel
theorem dX9_spinner_77 : decode cX9_spinner 77 = .ok (.iconst 1, 1) := by decide +kernel
theorem dX9_spinner_78 : decode cX9_spinner 78 = .ok (.iadd, 1) := by decide +kernel
theorem dX9_spinner_79 : decode cX9_spinner 79 = .ok (.iastore, 1) := by decide +kernel
theorem dX9_spinner_80 : decode cX9_spinner 80 = .ok (.iload_n 1, 1) := by decide +kernel
theorem dX9_spinner_81 : decode cX9_spinner 81 = .ok (.ireturn, 1) := by decide +kernel
theorem dX9_memory_0 : decode cX9_memory 0 = .ok (.iload_n 1, 1) := by decide +kernel
theorem dX9_memory_1 : decode cX9_memory 1 = .ok (.i2l, 1) := by decide +kernel
theorem dX9_memory_2 : decode cX9_memory 2 = .ok (.lconst 1, 1) := by decide +kernel
theorem dX9_memory_3 : decode cX9_memory 3 = .ok (.ldc2_w 84, 3) := by decide +kernel
theorem dX9_memory_6 : decode cX9_memory 6 = .ok (.invokestatic 52, 3) := by decide +kernel
theorem dX9_memory_9 : decode cX9_memory 9 = .ok (.ifCond .ne 5, 3) := by decide +kernel
theorem dX9_memory_12 : decode cX9_memory 12 = .ok (.iconst (-1), 1) := by decide +kernel
theorem dX9_memory_13 : decode cX9_memory 13 = .ok (.ireturn, 1) := by decide +kernel
theorem dX9_memory_14 : decode cX9_memory 14 = .ok (.aload_n 0, 1) := by decide +kernel
theorem dX9_memory_15 : decode cX9_memory 15 = .ok (.getfield 7, 3) := by decide +kernel
theorem dX9_memory_18 : decode cX9_memory 18 = .ok (.bipush 8, 2) := by decide +kernel
theorem dX9_memory_20 : decode cX9_memory 20 = .ok (.iaload, 1) := by decide +kernel
theorem dX9_memory_21 : decode cX9_memory 21 = .ok (.istore_n 2, 1) := by decide +kernel
theorem dX9_memory_22 : decode cX9_memory 22 = .ok (.aload_n 0, 1) := by decide +kernel
theorem dX9_memory_23 : decode cX9_memory 23 = .ok (.getfield 7, 3) := by decide +kernel
theorem dX9_memory_26 : decode cX9_memory 26 = .ok (.bipush 8, 2) := by decide +kernel
theorem dX9_memory_28 : decode cX9_memory 28 = .ok (.iload_n 1, 1) := by decide +kernel
theorem dX9_memory_29 : decode cX9_memory 29 = .ok (.iastore, 1) := by decide +kernel
theorem dX9_memory_30 : decode cX9_memory 30 = .ok (.iload_n 2, 1) := by decide +kernel
theorem dX9_memory_31 : decode cX9_memory 31 = .ok (.ireturn, 1) := by decide +kernel
theorem dX9_told_0 : decode cX9_told 0 = .ok (.iload_n 2, 1) := by decide +kernel
theorem dX9_told_1 : decode cX9_told 1 = .ok (.iconst (-1), 1) := by decide +kernel
theorem dX9_told_2 : decode cX9_told 2 = .ok (.if_icmp .ne 21, 3) := by decide +kernel
theorem dX9_told_5 : decode cX9_told 5 = .ok (.aload_n 0, 1) := by decide +kernel
theorem dX9_told_6 : decode cX9_told 6 = .ok (.iload_n 1, 1) := by decide +kernel
theorem dX9_told_7 : decode cX9_told 7 = .ok (.invokevirtual 72, 3) := by decide +kernel
theorem dX9_told_10 : decode cX9_told 10 = .ok (.ifCond .eq 13, 3) := by decide +kernel
theorem dX9_told_13 : decode cX9_told 13 = .ok (.aload_n 0, 1) := by decide +kernel
theorem dX9_told_14 : decode cX9_told 14 = .ok (.getfield 7, 3) := by decide +kernel
theorem dX9_told_17 : decode cX9_told 17 = .ok (.bipush 81, 2) := by decide +kernel
theorem dX9_told_19 : decode cX9_told 19 = .ok (.iload_n 1, 1) := by decide +kernel
theorem dX9_told_20 : decode cX9_told 20 = .ok (.iadd, 1) := by decide +kernel
theorem dX9_told_21 : decode cX9_told 21 = .ok (.iaload, 1) := by decide +kernel
theorem dX9_told_22 : decode cX9_told 22 = .ok (.ireturn, 1) := by decide +kernel
theorem dX9_told_23 : decode cX9_told 23 = .ok (.aload_n 0, 1) := by decide +kernel
theorem dX9_told_24 : decode cX9_told 24 = .ok (.iload_n 1, 1) := by decide +kernel
theorem dX9_told_25 : decode cX9_told 25 = .ok (.iload_n 2, 1) := by decide +kernel
theorem dX9_told_26 : decode cX9_told 26 = .ok (.invokevirtual 76, 3) := by decide +kernel
theorem dX9_told_29 : decode cX9_told 29 = .ok (.ifCond .eq 20, 3) := by decide +kernel
theorem dX9_told_32 : decode cX9_told 32 = .ok (.aload_n 0, 1) := by decide +kernel
theorem dX9_told_33 : decode cX9_told 33 = .ok (.getfield 7, 3) := by decide +kernel
theorem dX9_told_36 : decode cX9_told 36 = .ok (.bipush 9, 2) := by decide +kernel
theorem dX9_told_38 : decode cX9_told 38 = .ok (.bipush 9, 2) := by decide +kernel
theorem dX9_told_40 : decode cX9_told 40 = .ok (.iload_n 1, 1) := by decide +kernel
theorem dX9_told_41 : decode cX9_told 41 = .ok (.imul, 1) := by decide +kernel
theorem dX9_told_42 : decode cX9_told 42 = .ok (.iadd, 1) := by decide +kernel
theorem dX9_told_43 : decode cX9_told 43 = .ok (.iload_n 2, 1) := by decide +kernel
theorem dX9_told_44 : decode cX9_told 44 = .ok (.iadd, 1) := by decide +kernel
theorem dX9_told_45 : decode cX9_told 45 = .ok (.iaload, 1) := by decide +kernel
theorem dX9_told_46 : decode cX9_told 46 = .ok (.goto 4, 3) := by decide +kernel
theorem dX9_told_49 : decode cX9_told 49 = .ok (.iconst (-1), 1) := by decide +kernel
theorem dX9_told_50 : decode cX9_told 50 = .ok (.ireturn, 1) := by decide +kernel
theorem dX9_by_0 : decode cX9_by 0 = .ok (.iload_n 0, 1) := by decide +kernel
theorem dX9_by_1 : decode cX9_by 1 = .ok (.iconst 2, 1) := by decide +kernel
theorem dX9_by_2 : decode cX9_by 2 = .ok (.if_icmp .ne 20, 3) := by decide +kernel
theorem dX9_by_5 : decode cX9_by 5 = .ok (.iload_n 1, 1) := by decide +kernel
theorem dX9_by_6 : decode cX9_by 6 = .ok (.bipush 7, 2) := by decide +kernel
theorem dX9_by_8 : decode cX9_by 8 = .ok (.if_icmp .le 8, 3) := by decide +kernel
theorem dX9_by_11 : decode cX9_by 11 = .ok (.bipush 9, 2) := by decide +kernel
theorem dX9_by_13 : decode cX9_by 13 = .ok (.goto 34, 3) := by decide +kernel
theorem dX9_by_16 : decode cX9_by 16 = .ok (.iload_n 1, 1) := by decide +kernel
theorem dX9_by_17 : decode cX9_by 17 = .ok (.iconst 2, 1) := by decide +kernel
theorem dX9_by_18 : decode cX9_by 18 = .ok (.iadd, 1) := by decide +kernel
theorem dX9_by_19 : decode cX9_by 19 = .ok (.goto 28, 3) := by decide +kernel
theorem dX9_by_22 : decode cX9_by 22 = .ok (.iload_n 0, 1) := by decide +kernel
theorem dX9_by_23 : decode cX9_by 23 = .ok (.iconst 1, 1) := by decide +kernel
theorem dX9_by_24 : decode cX9_by 24 = .ok (.if_icmp .eq 8, 3) := by decide +kernel
theorem dX9_by_27 : decode cX9_by 27 = .ok (.iload_n 0, 1) := by decide +kernel
theorem dX9_by_28 : decode cX9_by 28 = .ok (.iconst 3, 1) := by decide +kernel
theorem dX9_by_29 : decode cX9_by 29 = .ok (.if_icmp .ne 17, 3) := by decide +kernel
theorem dX9_by_32 : decode cX9_by 32 = .ok (.iload_n 1, 1) := by decide +kernel
theorem dX9_by_33 : decode cX9_by 33 = .ok (.ifCond .le 9, 3) := by decide +kernel
theorem dX9_by_36 : decode cX9_by 36 = .ok (.iload_n 1, 1) := by decide +kernel
theorem dX9_by_37 : decode cX9_by 37 = .ok (.iconst 1, 1) := by decide +kernel
theorem dX9_by_38 : decode cX9_by 38 = .ok (.isub, 1) := by decide +kernel
theorem dX9_by_39 : decode cX9_by 39 = .ok (.goto 8, 3) := by decide +kernel
theorem dX9_by_42 : decode cX9_by 42 = .ok (.iconst 0, 1) := by decide +kernel
theorem dX9_by_43 : decode cX9_by 43 = .ok (.goto 4, 3) := by decide +kernel
theorem dX9_by_46 : decode cX9_by 46 = .ok (.iload_n 1, 1) := by decide +kernel
theorem dX9_by_47 : decode cX9_by 47 = .ok (.ireturn, 1) := by decide +kernel
theorem dX9_tellsIt_0 : decode cX9_tellsIt 0 = .ok (.aload_n 0, 1) := by decide +kernel
theorem dX9_tellsIt_1 : decode cX9_tellsIt 1 = .ok (.getfield 7, 3) := by decide +kernel
theorem dX9_tellsIt_4 : decode cX9_tellsIt 4 = .ok (.bipush 89, 2) := by decide +kernel
theorem dX9_tellsIt_6 : decode cX9_tellsIt 6 = .ok (.iload_n 1, 1) := by decide +kernel
theorem dX9_tellsIt_7 : decode cX9_tellsIt 7 = .ok (.iadd, 1) := by decide +kernel
theorem dX9_tellsIt_8 : decode cX9_tellsIt 8 = .ok (.iaload, 1) := by decide +kernel
theorem dX9_tellsIt_9 : decode cX9_tellsIt 9 = .ok (.istore 4, 2) := by decide +kernel
theorem dX9_tellsIt_11 : decode cX9_tellsIt 11 = .ok (.iload 4, 2) := by decide +kernel
theorem dX9_tellsIt_13 : decode cX9_tellsIt 13 = .ok (.iconst 3, 1) := by decide +kernel
theorem dX9_tellsIt_14 : decode cX9_tellsIt 14 = .ok (.if_icmp .ne 19, 3) := by decide +kernel
theorem dX9_tellsIt_17 : decode cX9_tellsIt 17 = .ok (.aload_n 0, 1) := by decide +kernel
theorem dX9_tellsIt_18 : decode cX9_tellsIt 18 = .ok (.getfield 7, 3) := by decide +kernel
theorem dX9_tellsIt_21 : decode cX9_tellsIt 21 = .ok (.bipush 81, 2) := by decide +kernel
theorem dX9_tellsIt_23 : decode cX9_tellsIt 23 = .ok (.iload_n 2, 1) := by decide +kernel
theorem dX9_tellsIt_24 : decode cX9_tellsIt 24 = .ok (.iadd, 1) := by decide +kernel
theorem dX9_tellsIt_25 : decode cX9_tellsIt 25 = .ok (.iaload, 1) := by decide +kernel
theorem dX9_tellsIt_26 : decode cX9_tellsIt 26 = .ok (.iconst 1, 1) := by decide +kernel
theorem dX9_tellsIt_27 : decode cX9_tellsIt 27 = .ok (.isub, 1) := by decide +kernel
theorem dX9_tellsIt_28 : decode cX9_tellsIt 28 = .ok (.iload_n 3, 1) := by decide +kernel
theorem dX9_tellsIt_29 : decode cX9_tellsIt 29 = .ok (.isub, 1) := by decide +kernel
theorem dX9_tellsIt_30 : decode cX9_tellsIt 30 = .ok (.goto 4, 3) := by decide +kernel
theorem dX9_tellsIt_33 : decode cX9_tellsIt 33 = .ok (.iload_n 3, 1) := by decide +kernel
theorem dX9_tellsIt_34 : decode cX9_tellsIt 34 = .ok (.istore 5, 2) := by decide +kernel
theorem dX9_tellsIt_36 : decode cX9_tellsIt 36 = .ok (.iload 4, 2) := by decide +kernel
theorem dX9_tellsIt_38 : decode cX9_tellsIt 38 = .ok (.aload_n 0, 1) := by decide +kernel
theorem dX9_tellsIt_39 : decode cX9_tellsIt 39 = .ok (.getfield 7, 3) := by decide +kernel
theorem dX9_tellsIt_42 : decode cX9_tellsIt 42 = .ok (.bipush 9, 2) := by decide +kernel
theorem dX9_tellsIt_44 : decode cX9_tellsIt 44 = .ok (.bipush 9, 2) := by decide +kernel
theorem dX9_tellsIt_46 : decode cX9_tellsIt 46 = .ok (.iload_n 2, 1) := by decide +kernel
theorem dX9_tellsIt_47 : decode cX9_tellsIt 47 = .ok (.imul, 1) := by decide +kernel
theorem dX9_tellsIt_48 : decode cX9_tellsIt 48 = .ok (.iadd, 1) := by decide +kernel
theorem dX9_tellsIt_49 : decode cX9_tellsIt 49 = .ok (.iload 5, 2) := by decide +kernel
theorem dX9_tellsIt_51 : decode cX9_tellsIt 51 = .ok (.iadd, 1) := by decide +kernel
theorem dX9_tellsIt_52 : decode cX9_tellsIt 52 = .ok (.iaload, 1) := by decide +kernel
theorem dX9_tellsIt_53 : decode cX9_tellsIt 53 = .ok (.invokestatic 86, 3) := by decide +kernel
theorem dX9_tellsIt_56 : decode cX9_tellsIt 56 = .ok (.ireturn, 1) := by decide +kernel
theorem dX9_tells_0 : decode cX9_tells 0 = .ok (.aload_n 0, 1) := by decide +kernel
theorem dX9_tells_1 : decode cX9_tells 1 = .ok (.iload_n 1, 1) := by decide +kernel
theorem dX9_tells_2 : decode cX9_tells 2 = .ok (.invokevirtual 90, 3) := by decide +kernel
theorem dX9_tells_5 : decode cX9_tells 5 = .ok (.ifCond .eq 22, 3) := by decide +kernel
theorem dX9_tells_8 : decode cX9_tells 8 = .ok (.aload_n 0, 1) := by decide +kernel
theorem dX9_tells_9 : decode cX9_tells 9 = .ok (.iload_n 2, 1) := by decide +kernel
theorem dX9_tells_10 : decode cX9_tells 10 = .ok (.iload_n 3, 1) := by decide +kernel
theorem dX9_tells_11 : decode cX9_tells 11 = .ok (.invokevirtual 76, 3) := by decide +kernel
theorem dX9_tells_14 : decode cX9_tells 14 = .ok (.ifCond .eq 13, 3) := by decide +kernel
theorem dX9_tells_17 : decode cX9_tells 17 = .ok (.aload_n 0, 1) := by decide +kernel
theorem dX9_tells_18 : decode cX9_tells 18 = .ok (.iload_n 1, 1) := by decide +kernel
theorem dX9_tells_19 : decode cX9_tells 19 = .ok (.iload_n 2, 1) := by decide +kernel
theorem dX9_tells_20 : decode cX9_tells 20 = .ok (.iload_n 3, 1) := by decide +kernel
theorem dX9_tells_21 : decode cX9_tells 21 = .ok (.invokevirtual 93, 3) := by decide +kernel
theorem dX9_tells_24 : decode cX9_tells 24 = .ok (.goto 4, 3) := by decide +kernel
theorem dX9_tells_27 : decode cX9_tells 27 = .ok (.iconst (-1), 1) := by decide +kernel
theorem dX9_tells_28 : decode cX9_tells 28 = .ok (.ireturn, 1) := by decide +kernel
theorem dX9_yards_0 : decode cX9_yards 0 = .ok (.aload_n 0, 1) := by decide +kernel
theorem dX9_yards_1 : decode cX9_yards 1 = .ok (.iload_n 1, 1) := by decide +kernel
theorem dX9_yards_2 : decode cX9_yards 2 = .ok (.invokevirtual 97, 3) := by decide +kernel
theorem dX9_yards_5 : decode cX9_yards 5 = .ok (.ifCond .eq 31, 3) := by decide +kernel
theorem dX9_yards_8 : decode cX9_yards 8 = .ok (.iload_n 2, 1) := by decide +kernel
theorem dX9_yards_9 : decode cX9_yards 9 = .ok (.i2l, 1) := by decide +kernel
theorem dX9_yards_10 : decode cX9_yards 10 = .ok (.lconst 0, 1) := by decide +kernel
theorem dX9_yards_11 : decode cX9_yards 11 = .ok (.ldc2_w 82, 3) := by decide +kernel
theorem dX9_yards_14 : decode cX9_yards 14 = .ok (.invokestatic 52, 3) := by decide +kernel
theorem dX9_yards_17 : decode cX9_yards 17 = .ok (.ifCond .eq 19, 3) := by decide +kernel
theorem dX9_yards_20 : decode cX9_yards 20 = .ok (.aload_n 0, 1) := by decide +kernel
theorem dX9_yards_21 : decode cX9_yards 21 = .ok (.getfield 7, 3) := by decide +kernel
theorem dX9_yards_24 : decode cX9_yards 24 = .ok (.bipush 93, 2) := by decide +kernel
theorem dX9_yards_26 : decode cX9_yards 26 = .ok (.iconst 4, 1) := by decide +kernel
theorem dX9_yards_27 : decode cX9_yards 27 = .ok (.iload_n 1, 1) := by decide +kernel
theorem dX9_yards_28 : decode cX9_yards 28 = .ok (.imul, 1) := by decide +kernel
theorem dX9_yards_29 : decode cX9_yards 29 = .ok (.iadd, 1) := by decide +kernel
theorem dX9_yards_30 : decode cX9_yards 30 = .ok (.iload_n 2, 1) := by decide +kernel
theorem dX9_yards_31 : decode cX9_yards 31 = .ok (.iadd, 1) := by decide +kernel
theorem dX9_yards_32 : decode cX9_yards 32 = .ok (.iaload, 1) := by decide +kernel
theorem dX9_yards_33 : decode cX9_yards 33 = .ok (.goto 4, 3) := by decide +kernel
theorem dX9_yards_36 : decode cX9_yards 36 = .ok (.iconst (-1), 1) := by decide +kernel
theorem dX9_yards_37 : decode cX9_yards 37 = .ok (.ireturn, 1) := by decide +kernel
theorem dX9_use_0 : decode cX9_use 0 = .ok (.aload_n 0, 1) := by decide +kernel
theorem dX9_use_1 : decode cX9_use 1 = .ok (.iload_n 1, 1) := by decide +kernel
theorem dX9_use_2 : decode cX9_use 2 = .ok (.invokevirtual 97, 3) := by decide +kernel
theorem dX9_use_5 : decode cX9_use 5 = .ok (.ifCond .eq 27, 3) := by decide +kernel
theorem dX9_use_8 : decode cX9_use 8 = .ok (.iload_n 2, 1) := by decide +kernel
theorem dX9_use_9 : decode cX9_use 9 = .ok (.i2l, 1) := by decide +kernel
theorem dX9_use_10 : decode cX9_use 10 = .ok (.lconst 0, 1) := by decide +kernel
theorem dX9_use_11 : decode cX9_use 11 = .ok (.ldc2_w 82, 3) := by decide +kernel
theorem dX9_use_14 : decode cX9_use 14 = .ok (.invokestatic 52, 3) := by decide +kernel
theorem dX9_use_17 : decode cX9_use 17 = .ok (.ifCond .eq 15, 3) := by decide +kernel
theorem dX9_use_20 : decode cX9_use 20 = .ok (.iload_n 3, 1) := by decide +kernel
theorem dX9_use_21 : decode cX9_use 21 = .ok (.i2l, 1) := by decide +kernel
theorem dX9_use_22 : decode cX9_use 22 = .ok (.lconst 1, 1) := by decide +kernel
theorem dX9_use_23 : decode cX9_use 23 = .ok (.ldc2_w 100, 3) := by decide +kernel
theorem dX9_use_26 : decode cX9_use 26 = .ok (.invokestatic 52, 3) := by decide +kernel
theorem dX9_use_29 : decode cX9_use 29 = .ok (.ifCond .ne 5, 3) := by decide +kernel
theorem dX9_use_32 : decode cX9_use 32 = .ok (.iconst (-1), 1) := by decide +kernel
theorem dX9_use_33 : decode cX9_use 33 = .ok (.ireturn, 1) := by decide +kernel
theorem dX9_use_34 : decode cX9_use 34 = .ok (.bipush 93, 2) := by decide +kernel
theorem dX9_use_36 : decode cX9_use 36 = .ok (.iconst 4, 1) := by decide +kernel
theorem dX9_use_37 : decode cX9_use 37 = .ok (.iload_n 1, 1) := by decide +kernel
theorem dX9_use_38 : decode cX9_use 38 = .ok (.imul, 1) := by decide +kernel
theorem dX9_use_39 : decode cX9_use 39 = .ok (.iadd, 1) := by decide +kernel
theorem dX9_use_40 : decode cX9_use 40 = .ok (.iload_n 2, 1) := by decide +kernel
theorem dX9_use_41 : decode cX9_use 41 = .ok (.iadd, 1) := by decide +kernel
theorem dX9_use_42 : decode cX9_use 42 = .ok (.istore 4, 2) := by decide +kernel
theorem dX9_use_44 : decode cX9_use 44 = .ok (.aload_n 0, 1) := by decide +kernel
theorem dX9_use_45 : decode cX9_use 45 = .ok (.getfield 7, 3) := by decide +kernel
theorem dX9_use_48 : decode cX9_use 48 = .ok (.iload 4, 2) := by decide +kernel
theorem dX9_use_50 : decode cX9_use 50 = .ok (.iaload, 1) := by decide +kernel
theorem dX9_use_51 : decode cX9_use 51 = .ok (.iload_n 3, 1) := by decide +kernel
theorem dX9_use_52 : decode cX9_use 52 = .ok (.if_icmp .ge 6, 3) := by decide +kernel
theorem dX9_use_55 : decode cX9_use 55 = .ok (.bipush (-2), 2) := by decide +kernel
theorem dX9_use_57 : decode cX9_use 57 = .ok (.ireturn, 1) := by decide +kernel
theorem dX9_use_58 : decode cX9_use 58 = .ok (.aload_n 0, 1) := by decide +kernel
theorem dX9_use_59 : decode cX9_use 59 = .ok (.getfield 7, 3) := by decide +kernel
theorem dX9_use_62 : decode cX9_use 62 = .ok (.iload 4, 2) := by decide +kernel
theorem dX9_use_64 : decode cX9_use 64 = .ok (.dup2, 1) := by decide +kernel
theorem dX9_use_65 : decode cX9_use 65 = .ok (.iaload, 1) := by decide +kernel
theorem dX9_use_66 : decode cX9_use 66 = .ok (.iload_n 3, 1) := by decide +kernel
theorem dX9_use_67 : decode cX9_use 67 = .ok (.isub, 1) := by decide +kernel
theorem dX9_use_68 : decode cX9_use 68 = .ok (.iastore, 1) := by decide +kernel
theorem dX9_use_69 : decode cX9_use 69 = .ok (.aload_n 0, 1) := by decide +kernel
theorem dX9_use_70 : decode cX9_use 70 = .ok (.getfield 7, 3) := by decide +kernel
theorem dX9_use_73 : decode cX9_use 73 = .ok (.iload 4, 2) := by decide +kernel
theorem dX9_use_75 : decode cX9_use 75 = .ok (.iaload, 1) := by decide +kernel
theorem dX9_use_76 : decode cX9_use 76 = .ok (.ireturn, 1) := by decide +kernel
theorem dX9_sortOf_0 : decode cX9_sortOf 0 = .ok (.iload_n 0, 1) := by decide +kernel
theorem dX9_sortOf_1 : decode cX9_sortOf 1 = .ok (.iconst 3, 1) := by decide +kernel
theorem dX9_sortOf_2 : decode cX9_sortOf 2 = .ok (.idiv, 1) := by decide +kernel
theorem dX9_sortOf_3 : decode cX9_sortOf 3 = .ok (.ireturn, 1) := by decide +kernel
theorem dX9_isMind_0 : decode cX9_isMind 0 = .ok (.iload_n 1, 1) := by decide +kernel
theorem dX9_isMind_1 : decode cX9_isMind 1 = .ok (.ifCond .le 25, 3) := by decide +kernel
theorem dX9_isMind_4 : decode cX9_isMind 4 = .ok (.iload_n 2, 1) := by decide +kernel
theorem dX9_isMind_5 : decode cX9_isMind 5 = .ok (.iload_n 1, 1) := by decide +kernel
theorem dX9_isMind_6 : decode cX9_isMind 6 = .ok (.if_icmp .le 20, 3) := by decide +kernel
theorem dX9_isMind_9 : decode cX9_isMind 9 = .ok (.iload_n 2, 1) := by decide +kernel
theorem dX9_isMind_10 : decode cX9_isMind 10 = .ok (.iload_n 1, 1) := by decide +kernel
theorem dX9_isMind_11 : decode cX9_isMind 11 = .ok (.aload_n 0, 1) := by decide +kernel
theorem dX9_isMind_12 : decode cX9_isMind 12 = .ok (.getfield 7, 3) := by decide +kernel
theorem dX9_isMind_15 : decode cX9_isMind 15 = .ok (.bipush 8, 2) := by decide +kernel
theorem dX9_isMind_17 : decode cX9_isMind 17 = .ok (.iaload, 1) := by decide +kernel
theorem dX9_isMind_18 : decode cX9_isMind 18 = .ok (.iadd, 1) := by decide +kernel
theorem dX9_isMind_19 : decode cX9_isMind 19 = .ok (.if_icmp .gt 7, 3) := by decide +kernel
theorem dX9_isMind_22 : decode cX9_isMind 22 = .ok (.iconst 1, 1) := by decide +kernel
theorem dX9_isMind_23 : decode cX9_isMind 23 = .ok (.goto 4, 3) := by decide +kernel
theorem dX9_isMind_26 : decode cX9_isMind 26 = .ok (.iconst 0, 1) := by decide +kernel
theorem dX9_isMind_27 : decode cX9_isMind 27 = .ok (.ireturn, 1) := by decide +kernel
theorem dX9_hasMind_0 : decode cX9_hasMind 0 = .ok (.aload_n 0, 1) := by decide +kernel
theorem dX9_hasMind_1 : decode cX9_hasMind 1 = .ok (.aload_n 0, 1) := by decide +kernel
theorem dX9_hasMind_2 : decode cX9_hasMind 2 = .ok (.getfield 7, 3) := by decide +kernel
theorem dX9_hasMind_5 : decode cX9_hasMind 5 = .ok (.bipush 109, 2) := by decide +kernel
theorem dX9_hasMind_7 : decode cX9_hasMind 7 = .ok (.bipush 8, 2) := by decide +kernel
theorem dX9_hasMind_9 : decode cX9_hasMind 9 = .ok (.iload_n 1, 1) := by decide +kernel
theorem dX9_hasMind_10 : decode cX9_hasMind 10 = .ok (.imul, 1) := by decide +kernel
theorem dX9_hasMind_11 : decode cX9_hasMind 11 = .ok (.iadd, 1) := by decide +kernel
theorem dX9_hasMind_12 : decode cX9_hasMind 12 = .ok (.iload_n 2, 1) := by decide +kernel
theorem dX9_hasMind_13 : decode cX9_hasMind 13 = .ok (.iadd, 1) := by decide +kernel
theorem dX9_hasMind_14 : decode cX9_hasMind 14 = .ok (.iaload, 1) := by decide +kernel
theorem dX9_hasMind_15 : decode cX9_hasMind 15 = .ok (.iload_n 3, 1) := by decide +kernel
theorem dX9_hasMind_16 : decode cX9_hasMind 16 = .ok (.invokevirtual 102, 3) := by decide +kernel
theorem dX9_hasMind_19 : decode cX9_hasMind 19 = .ok (.ireturn, 1) := by decide +kernel
theorem dX9_mind_0 : decode cX9_mind 0 = .ok (.aload_n 0, 1) := by decide +kernel
theorem dX9_mind_1 : decode cX9_mind 1 = .ok (.iload_n 1, 1) := by decide +kernel
theorem dX9_mind_2 : decode cX9_mind 2 = .ok (.invokevirtual 97, 3) := by decide +kernel
theorem dX9_mind_5 : decode cX9_mind 5 = .ok (.ifCond .ne 5, 3) := by decide +kernel
theorem dX9_mind_8 : decode cX9_mind 8 = .ok (.iconst (-1), 1) := by decide +kernel
theorem dX9_mind_9 : decode cX9_mind 9 = .ok (.ireturn, 1) := by decide +kernel
theorem dX9_mind_10 : decode cX9_mind 10 = .ok (.iconst 0, 1) := by decide +kernel
theorem dX9_mind_11 : decode cX9_mind 11 = .ok (.istore_n 2, 1) := by decide +kernel
theorem dX9_mind_12 : decode cX9_mind 12 = .ok (.iconst 0, 1) := by decide +kernel
theorem dX9_mind_13 : decode cX9_mind 13 = .ok (.istore_n 3, 1) := by decide +kernel
theorem dX9_mind_14 : decode cX9_mind 14 = .ok (.iload_n 3, 1) := by decide +kernel
theorem dX9_mind_15 : decode cX9_mind 15 = .ok (.aload_n 0, 1) := by decide +kernel
theorem dX9_mind_16 : decode cX9_mind 16 = .ok (.getfield 7, 3) := by decide +kernel
theorem dX9_mind_19 : decode cX9_mind 19 = .ok (.iconst 0, 1) := by decide +kernel
theorem dX9_mind_20 : decode cX9_mind 20 = .ok (.iaload, 1) := by decide +kernel
theorem dX9_mind_21 : decode cX9_mind 21 = .ok (.if_icmp .ge 36, 3) := by decide +kernel
theorem dX9_mind_24 : decode cX9_mind 24 = .ok (.iload_n 2, 1) := by decide +kernel
theorem dX9_mind_25 : decode cX9_mind 25 = .ok (.aload_n 0, 1) := by decide +kernel
theorem dX9_mind_26 : decode cX9_mind 26 = .ok (.iload_n 1, 1) := by decide +kernel
theorem dX9_mind_27 : decode cX9_mind 27 = .ok (.iload_n 3, 1) := by decide +kernel
theorem dX9_mind_28 : decode cX9_mind 28 = .ok (.aload_n 0, 1) := by decide +kernel
theorem dX9_mind_29 : decode cX9_mind 29 = .ok (.getfield 7, 3) := by decide +kernel
theorem dX9_mind_32 : decode cX9_mind 32 = .ok (.iconst 3, 1) := by decide +kernel
theorem dX9_mind_33 : decode cX9_mind 33 = .ok (.iaload, 1) := by decide +kernel
theorem dX9_mind_34 : decode cX9_mind 34 = .ok (.iconst 1, 1) := by decide +kernel
theorem dX9_mind_35 : decode cX9_mind 35 = .ok (.iadd, 1) := by decide +kernel
theorem dX9_mind_36 : decode cX9_mind 36 = .ok (.invokevirtual 105, 3) := by decide +kernel
theorem dX9_mind_39 : decode cX9_mind 39 = .ok (.ifCond .eq 9, 3) := by decide +kernel
theorem dX9_mind_42 : decode cX9_mind 42 = .ok (.iconst 1, 1) := by decide +kernel
theorem dX9_mind_43 : decode cX9_mind 43 = .ok (.iload_n 3, 1) := by decide +kernel
theorem dX9_mind_44 : decode cX9_mind 44 = .ok (.ishl, 1) := by decide +kernel
theorem dX9_mind_45 : decode cX9_mind 45 = .ok (.goto 4, 3) := by decide +kernel
theorem dX9_mind_48 : decode cX9_mind 48 = .ok (.iconst 0, 1) := by decide +kernel
theorem dX9_mind_49 : decode cX9_mind 49 = .ok (.ior, 1) := by decide +kernel
theorem dX9_mind_50 : decode cX9_mind 50 = .ok (.istore_n 2, 1) := by decide +kernel
theorem dX9_mind_51 : decode cX9_mind 51 = .ok (.iinc 3 1, 3) := by decide +kernel
theorem dX9_mind_54 : decode cX9_mind 54 = .ok (.goto (-40), 3) := by decide +kernel
theorem dX9_mind_57 : decode cX9_mind 57 = .ok (.iload_n 2, 1) := by decide +kernel
theorem dX9_mind_58 : decode cX9_mind 58 = .ok (.ireturn, 1) := by decide +kernel
theorem dX9_count_0 : decode cX9_count 0 = .ok (.iload_n 1, 1) := by decide +kernel
theorem dX9_count_1 : decode cX9_count 1 = .ok (.i2l, 1) := by decide +kernel
theorem dX9_count_2 : decode cX9_count 2 = .ok (.lconst 0, 1) := by decide +kernel
theorem dX9_count_3 : decode cX9_count 3 = .ok (.ldc2_w 109, 3) := by decide +kernel
theorem dX9_count_6 : decode cX9_count 6 = .ok (.invokestatic 52, 3) := by decide +kernel
theorem dX9_count_9 : decode cX9_count 9 = .ok (.ifCond .eq 12, 3) := by decide +kernel
theorem dX9_count_12 : decode cX9_count 12 = .ok (.aload_n 0, 1) := by decide +kernel
theorem dX9_count_13 : decode cX9_count 13 = .ok (.getfield 7, 3) := by decide +kernel
theorem dX9_count_16 : decode cX9_count 16 = .ok (.iload_n 1, 1) := by decide +kernel
theorem dX9_count_17 : decode cX9_count 17 = .ok (.iaload, 1) := by decide +kernel
theorem dX9_count_18 : decode cX9_count 18 = .ok (.goto 4, 3) := by decide +kernel
theorem dX9_count_21 : decode cX9_count 21 = .ok (.iconst (-1), 1) := by decide +kernel
theorem dX9_count_22 : decode cX9_count 22 = .ok (.ireturn, 1) := by decide +kernel
theorem dX9_evening_0 : decode cX9_evening 0 = .ok (.aload_n 0, 1) := by decide +kernel
theorem dX9_evening_1 : decode cX9_evening 1 = .ok (.iload_n 1, 1) := by decide +kernel
theorem dX9_evening_2 : decode cX9_evening 2 = .ok (.invokevirtual 90, 3) := by decide +kernel
theorem dX9_evening_5 : decode cX9_evening 5 = .ok (.ifCond .eq 44, 3) := by decide +kernel
theorem dX9_evening_8 : decode cX9_evening 8 = .ok (.aload_n 0, 1) := by decide +kernel
theorem dX9_evening_9 : decode cX9_evening 9 = .ok (.iload_n 2, 1) := by decide +kernel
theorem dX9_evening_10 : decode cX9_evening 10 = .ok (.invokevirtual 72, 3) := by decide +kernel
theorem dX9_evening_13 : decode cX9_evening 13 = .ok (.ifCond .eq 36, 3) := by decide +kernel
theorem dX9_evening_16 : decode cX9_evening 16 = .ok (.iload_n 3, 1) := by decide +kernel
theorem dX9_evening_17 : decode cX9_evening 17 = .ok (.i2l, 1) := by decide +kernel
theorem dX9_evening_18 : decode cX9_evening 18 = .ok (.lconst 1, 1) := by decide +kernel
theorem dX9_evening_19 : decode cX9_evening 19 = .ok (.ldc2_w 80, 3) := by decide +kernel
theorem dX9_evening_22 : decode cX9_evening 22 = .ok (.invokestatic 52, 3) := by decide +kernel
theorem dX9_evening_25 : decode cX9_evening 25 = .ok (.ifCond .eq 24, 3) := by decide +kernel
theorem dX9_evening_28 : decode cX9_evening 28 = .ok (.iload 4, 2) := by decide +kernel
theorem dX9_evening_30 : decode cX9_evening 30 = .ok (.i2l, 1) := by decide +kernel
theorem dX9_evening_31 : decode cX9_evening 31 = .ok (.lconst 0, 1) := by decide +kernel
theorem dX9_evening_32 : decode cX9_evening 32 = .ok (.iconst 1, 1) := by decide +kernel
theorem dX9_evening_33 : decode cX9_evening 33 = .ok (.aload_n 0, 1) := by decide +kernel
theorem dX9_evening_34 : decode cX9_evening 34 = .ok (.getfield 7, 3) := by decide +kernel
theorem dX9_evening_37 : decode cX9_evening 37 = .ok (.iconst 2, 1) := by decide +kernel
theorem dX9_evening_38 : decode cX9_evening 38 = .ok (.iaload, 1) := by decide +kernel
theorem dX9_evening_39 : decode cX9_evening 39 = .ok (.ishl, 1) := by decide +kernel
theorem dX9_evening_40 : decode cX9_evening 40 = .ok (.iconst 1, 1) := by decide +kernel
theorem dX9_evening_41 : decode cX9_evening 41 = .ok (.isub, 1) := by decide +kernel
theorem dX9_evening_42 : decode cX9_evening 42 = .ok (.i2l, 1) := by decide +kernel
theorem dX9_evening_43 : decode cX9_evening 43 = .ok (.invokestatic 52, 3) := by decide +kernel
theorem dX9_evening_46 : decode cX9_evening 46 = .ok (.ifCond .ne 5, 3) := by decide +kernel
theorem dX9_evening_49 : decode cX9_evening 49 = .ok (.iconst (-1), 1) := by decide +kernel
theorem dX9_evening_50 : decode cX9_evening 50 = .ok (.ireturn, 1) := by decide +kernel
theorem dX9_evening_51 : decode cX9_evening 51 = .ok (.aload_n 0, 1) := by decide +kernel
theorem dX9_evening_52 : decode cX9_evening 52 = .ok (.getfield 7, 3) := by decide +kernel
theorem dX9_evening_55 : decode cX9_evening 55 = .ok (.iconst 3, 1) := by decide +kernel
theorem dX9_evening_56 : decode cX9_evening 56 = .ok (.iaload, 1) := by decide +kernel
theorem dX9_evening_57 : decode cX9_evening 57 = .ok (.sipush 9999, 3) := by decide +kernel
theorem dX9_evening_60 : decode cX9_evening 60 = .ok (.if_icmp .ne 6, 3) := by decide +kernel
theorem dX9_evening_63 : decode cX9_evening 63 = .ok (.bipush (-3), 2) := by decide +kernel
theorem dX9_evening_65 : decode cX9_evening 65 = .ok (.ireturn, 1) := by decide +kernel
theorem dX9_evening_66 : decode cX9_evening 66 = .ok (.aload_n 0, 1) := by decide +kernel
theorem dX9_evening_67 : decode cX9_evening 67 = .ok (.getfield 7, 3) := by decide +kernel
theorem dX9_evening_70 : decode cX9_evening 70 = .ok (.iconst 3, 1) := by decide +kernel
theorem dX9_evening_71 : decode cX9_evening 71 = .ok (.dup2, 1) := by decide +kernel
theorem dX9_evening_72 : decode cX9_evening 72 = .ok (.iaload, 1) := by decide +kernel
theorem dX9_evening_73 : decode cX9_evening 73 = .ok (.iconst 1, 1) := by decide +kernel
theorem dX9_evening_74 : decode cX9_evening 74 = .ok (.iadd, 1) := by decide +kernel
theorem dX9_evening_75 : decode cX9_evening 75 = .ok (.iastore, 1) := by decide +kernel
theorem dX9_evening_76 : decode cX9_evening 76 = .ok (.aload_n 0, 1) := by decide +kernel
theorem dX9_evening_77 : decode cX9_evening 77 = .ok (.getfield 7, 3) := by decide +kernel
theorem dX9_evening_80 : decode cX9_evening 80 = .ok (.iconst 4, 1) := by decide +kernel
theorem dX9_evening_81 : decode cX9_evening 81 = .ok (.iaload, 1) := by decide +kernel
theorem dX9_evening_82 : decode cX9_evening 82 = .ok (.iload_n 2, 1) := by decide +kernel
theorem dX9_evening_83 : decode cX9_evening 83 = .ok (.if_icmp .ne 17, 3) := by decide +kernel
theorem dX9_evening_86 : decode cX9_evening 86 = .ok (.aload_n 0, 1) := by decide +kernel
theorem dX9_evening_87 : decode cX9_evening 87 = .ok (.getfield 7, 3) := by decide +kernel
theorem dX9_evening_90 : decode cX9_evening 90 = .ok (.iconst 5, 1) := by decide +kernel
theorem dX9_evening_91 : decode cX9_evening 91 = .ok (.iaload, 1) := by decide +kernel
theorem dX9_evening_92 : decode cX9_evening 92 = .ok (.iload_n 1, 1) := by decide +kernel
theorem dX9_evening_93 : decode cX9_evening 93 = .ok (.if_icmp .ne 7, 3) := by decide +kernel
theorem dX9_evening_96 : decode cX9_evening 96 = .ok (.iconst 1, 1) := by decide +kernel
theorem dX9_evening_97 : decode cX9_evening 97 = .ok (.goto 4, 3) := by decide +kernel
theorem dX9_evening_100 : decode cX9_evening 100 = .ok (.iconst 0, 1) := by decide +kernel
theorem dX9_evening_101 : decode cX9_evening 101 = .ok (.istore 5, 2) := by decide +kernel
theorem dX9_evening_103 : decode cX9_evening 103 = .ok (.iload 5, 2) := by decide +kernel
theorem dX9_evening_105 : decode cX9_evening 105 = .ok (.ifCond .eq 13, 3) := by decide +kernel
theorem dX9_evening_108 : decode cX9_evening 108 = .ok (.aload_n 0, 1) := by decide +kernel
theorem dX9_evening_109 : decode cX9_evening 109 = .ok (.getfield 7, 3) := by decide +kernel
theorem dX9_evening_112 : decode cX9_evening 112 = .ok (.bipush 6, 2) := by decide +kernel
theorem dX9_evening_114 : decode cX9_evening 114 = .ok (.iaload, 1) := by decide +kernel
theorem dX9_evening_115 : decode cX9_evening 115 = .ok (.goto 4, 3) := by decide +kernel
theorem dX9_evening_118 : decode cX9_evening 118 = .ok (.iconst 0, 1) := by decide +kernel
theorem dX9_evening_119 : decode cX9_evening 119 = .ok (.istore 6, 2) := by decide +kernel
theorem dX9_evening_121 : decode cX9_evening 121 = .ok (.iload 5, 2) := by decide +kernel
theorem dX9_evening_123 : decode cX9_evening 123 = .ok (.ifCond .eq 16, 3) := by decide +kernel
theorem dX9_evening_126 : decode cX9_evening 126 = .ok (.aload_n 0, 1) := by decide +kernel
theorem dX9_evening_127 : decode cX9_evening 127 = .ok (.getfield 7, 3) := by decide +kernel
theorem dX9_evening_130 : decode cX9_evening 130 = .ok (.bipush 7, 2) := by decide +kernel
theorem dX9_evening_132 : decode cX9_evening 132 = .ok (.iaload, 1) := by decide +kernel
theorem dX9_evening_133 : decode cX9_evening 133 = .ok (.iload 4, 2) := by decide +kernel
theorem dX9_evening_135 : decode cX9_evening 135 = .ok (.iand, 1) := by decide +kernel
theorem dX9_evening_136 : decode cX9_evening 136 = .ok (.goto 5, 3) := by decide +kernel
theorem dX9_evening_139 : decode cX9_evening 139 = .ok (.iload 4, 2) := by decide +kernel
theorem dX9_evening_141 : decode cX9_evening 141 = .ok (.istore 7, 2) := by decide +kernel
theorem dX9_evening_143 : decode cX9_evening 143 = .ok (.iload 6, 2) := by decide +kernel
theorem dX9_evening_145 : decode cX9_evening 145 = .ok (.iload_n 3, 1) := by decide +kernel
theorem dX9_evening_146 : decode cX9_evening 146 = .ok (.iadd, 1) := by decide +kernel
theorem dX9_evening_147 : decode cX9_evening 147 = .ok (.aload_n 0, 1) := by decide +kernel
theorem dX9_evening_148 : decode cX9_evening 148 = .ok (.getfield 7, 3) := by decide +kernel
theorem dX9_evening_151 : decode cX9_evening 151 = .ok (.bipush 81, 2) := by decide +kernel
theorem dX9_evening_153 : decode cX9_evening 153 = .ok (.iload_n 2, 1) := by decide +kernel
theorem dX9_evening_154 : decode cX9_evening 154 = .ok (.iadd, 1) := by decide +kernel
theorem dX9_evening_155 : decode cX9_evening 155 = .ok (.iaload, 1) := by decide +kernel
theorem dX9_evening_156 : decode cX9_evening 156 = .ok (.if_icmp .ge 10, 3) := by decide +kernel
theorem dX9_evening_159 : decode cX9_evening 159 = .ok (.iload 6, 2) := by decide +kernel
theorem dX9_evening_161 : decode cX9_evening 161 = .ok (.iload_n 3, 1) := by decide +kernel
theorem dX9_evening_162 : decode cX9_evening 162 = .ok (.iadd, 1) := by decide +kernel
theorem dX9_evening_163 : decode cX9_evening 163 = .ok (.goto 12, 3) := by decide +kernel
theorem dX9_evening_166 : decode cX9_evening 166 = .ok (.aload_n 0, 1) := by decide +kernel
theorem dX9_evening_167 : decode cX9_evening 167 = .ok (.getfield 7, 3) := by decide +kernel
theorem dX9_evening_170 : decode cX9_evening 170 = .ok (.bipush 81, 2) := by decide +kernel
theorem dX9_evening_172 : decode cX9_evening 172 = .ok (.iload_n 2, 1) := by decide +kernel
theorem dX9_evening_173 : decode cX9_evening 173 = .ok (.iadd, 1) := by decide +kernel
theorem dX9_evening_174 : decode cX9_evening 174 = .ok (.iaload, 1) := by decide +kernel
theorem dX9_evening_175 : decode cX9_evening 175 = .ok (.istore 8, 2) := by decide +kernel
theorem dX9_evening_177 : decode cX9_evening 177 = .ok (.iconst 0, 1) := by decide +kernel
theorem dX9_evening_178 : decode cX9_evening 178 = .ok (.istore 9, 2) := by decide +kernel
theorem dX9_evening_180 : decode cX9_evening 180 = .ok (.iconst 0, 1) := by decide +kernel
theorem dX9_evening_181 : decode cX9_evening 181 = .ok (.istore 10, 2) := by decide +kernel
theorem dX9_evening_183 : decode cX9_evening 183 = .ok (.iload 10, 2) := by decide +kernel
theorem dX9_evening_185 : decode cX9_evening 185 = .ok (.aload_n 0, 1) := by decide +kernel
theorem dX9_evening_186 : decode cX9_evening 186 = .ok (.getfield 7, 3) := by decide +kernel
theorem dX9_evening_189 : decode cX9_evening 189 = .ok (.iconst 2, 1) := by decide +kernel
theorem dX9_evening_190 : decode cX9_evening 190 = .ok (.iaload, 1) := by decide +kernel
theorem dX9_evening_191 : decode cX9_evening 191 = .ok (.if_icmp .ge 152, 3) := by decide +kernel
theorem dX9_evening_194 : decode cX9_evening 194 = .ok (.iload 4, 2) := by decide +kernel
theorem dX9_evening_196 : decode cX9_evening 196 = .ok (.iload 10, 2) := by decide +kernel
theorem dX9_evening_198 : decode cX9_evening 198 = .ok (.ishr, 1) := by decide +kernel
theorem dX9_evening_199 : decode cX9_evening 199 = .ok (.iconst 1, 1) := by decide +kernel
theorem dX9_evening_200 : decode cX9_evening 200 = .ok (.iand, 1) := by decide +kernel
theorem dX9_evening_201 : decode cX9_evening 201 = .ok (.ifCond .ne 6, 3) := by decide +kernel
theorem dX9_evening_204 : decode cX9_evening 204 = .ok (.goto 133, 3) := by decide +kernel
theorem dX9_evening_207 : decode cX9_evening 207 = .ok (.aload_n 0, 1) := by decide +kernel
theorem dX9_evening_208 : decode cX9_evening 208 = .ok (.iload 10, 2) := by decide +kernel
theorem dX9_evening_210 : decode cX9_evening 210 = .ok (.iload_n 2, 1) := by decide +kernel
theorem dX9_evening_211 : decode cX9_evening 211 = .ok (.aload_n 0, 1) := by decide +kernel
theorem dX9_evening_212 : decode cX9_evening 212 = .ok (.getfield 7, 3) := by decide +kernel
theorem dX9_evening_215 : decode cX9_evening 215 = .ok (.iconst 3, 1) := by decide +kernel
theorem dX9_evening_216 : decode cX9_evening 216 = .ok (.iaload, 1) := by decide +kernel
theorem dX9_evening_217 : decode cX9_evening 217 = .ok (.invokevirtual 105, 3) := by decide +kernel
theorem dX9_evening_220 : decode cX9_evening 220 = .ok (.istore 11, 2) := by decide +kernel
theorem dX9_evening_222 : decode cX9_evening 222 = .ok (.iload 6, 2) := by decide +kernel
theorem dX9_evening_224 : decode cX9_evening 224 = .ok (.istore 12, 2) := by decide +kernel
theorem dX9_evening_226 : decode cX9_evening 226 = .ok (.iload 12, 2) := by decide +kernel
theorem dX9_evening_228 : decode cX9_evening 228 = .ok (.iload 8, 2) := by decide +kernel
theorem dX9_evening_230 : decode cX9_evening 230 = .ok (.if_icmp .ge 61, 3) := by decide +kernel
theorem dX9_evening_233 : decode cX9_evening 233 = .ok (.aload_n 0, 1) := by decide +kernel
theorem dX9_evening_234 : decode cX9_evening 234 = .ok (.iload_n 1, 1) := by decide +kernel
theorem dX9_evening_235 : decode cX9_evening 235 = .ok (.iload_n 2, 1) := by decide +kernel
theorem dX9_evening_236 : decode cX9_evening 236 = .ok (.iload 12, 2) := by decide +kernel
theorem dX9_evening_238 : decode cX9_evening 238 = .ok (.invokevirtual 93, 3) := by decide +kernel
theorem dX9_evening_241 : decode cX9_evening 241 = .ok (.invokestatic 111, 3) := by decide +kernel
theorem dX9_evening_244 : decode cX9_evening 244 = .ok (.istore 13, 2) := by decide +kernel
theorem dX9_evening_246 : decode cX9_evening 246 = .ok (.aload_n 0, 1) := by decide +kernel
theorem dX9_evening_247 : decode cX9_evening 247 = .ok (.getfield 7, 3) := by decide +kernel
theorem dX9_evening_250 : decode cX9_evening 250 = .ok (.bipush 93, 2) := by decide +kernel
theorem dX9_evening_252 : decode cX9_evening 252 = .ok (.iconst 4, 1) := by decide +kernel
theorem dX9_evening_253 : decode cX9_evening 253 = .ok (.iload 10, 2) := by decide +kernel
theorem dX9_evening_255 : decode cX9_evening 255 = .ok (.imul, 1) := by decide +kernel
theorem dX9_evening_256 : decode cX9_evening 256 = .ok (.iadd, 1) := by decide +kernel
theorem dX9_evening_257 : decode cX9_evening 257 = .ok (.iload 11, 2) := by decide +kernel
theorem dX9_evening_259 : decode cX9_evening 259 = .ok (.ifCond .eq 15, 3) := by decide +kernel
theorem dX9_evening_262 : decode cX9_evening 262 = .ok (.iload 13, 2) := by decide +kernel
theorem dX9_evening_264 : decode cX9_evening 264 = .ok (.ifCond .le 10, 3) := by decide +kernel
theorem dX9_evening_267 : decode cX9_evening 267 = .ok (.iload 13, 2) := by decide +kernel
theorem dX9_evening_269 : decode cX9_evening 269 = .ok (.iconst 1, 1) := by decide +kernel
theorem dX9_evening_270 : decode cX9_evening 270 = .ok (.isub, 1) := by decide +kernel
theorem dX9_evening_271 : decode cX9_evening 271 = .ok (.goto 5, 3) := by decide +kernel
theorem dX9_evening_274 : decode cX9_evening 274 = .ok (.iload 13, 2) := by decide +kernel
theorem dX9_evening_276 : decode cX9_evening 276 = .ok (.iadd, 1) := by decide +kernel
theorem dX9_evening_277 : decode cX9_evening 277 = .ok (.dup2, 1) := by decide +kernel
theorem dX9_evening_278 : decode cX9_evening 278 = .ok (.iaload, 1) := by decide +kernel
theorem dX9_evening_279 : decode cX9_evening 279 = .ok (.iconst 1, 1) := by decide +kernel
theorem dX9_evening_280 : decode cX9_evening 280 = .ok (.iadd, 1) := by decide +kernel
theorem dX9_evening_281 : decode cX9_evening 281 = .ok (.iastore, 1) := by decide +kernel
theorem dX9_evening_282 : decode cX9_evening 282 = .ok (.iinc 9 1, 3) := by decide +kernel
theorem dX9_evening_285 : decode cX9_evening 285 = .ok (.iinc 12 1, 3) := by decide +kernel
theorem dX9_evening_288 : decode cX9_evening 288 = .ok (.goto (-62), 3) := by decide +kernel
theorem dX9_evening_291 : decode cX9_evening 291 = .ok (.iload 8, 2) := by decide +kernel
theorem dX9_evening_293 : decode cX9_evening 293 = .ok (.aload_n 0, 1) := by decide +kernel
theorem dX9_evening_294 : decode cX9_evening 294 = .ok (.getfield 7, 3) := by decide +kernel
theorem dX9_evening_297 : decode cX9_evening 297 = .ok (.bipush 81, 2) := by decide +kernel
theorem dX9_evening_299 : decode cX9_evening 299 = .ok (.iload_n 2, 1) := by decide +kernel
theorem dX9_evening_300 : decode cX9_evening 300 = .ok (.iadd, 1) := by decide +kernel
theorem dX9_evening_301 : decode cX9_evening 301 = .ok (.iaload, 1) := by decide +kernel
theorem dX9_evening_302 : decode cX9_evening 302 = .ok (.if_icmp .ne 35, 3) := by decide +kernel
theorem dX9_evening_305 : decode cX9_evening 305 = .ok (.iload 7, 2) := by decide +kernel
theorem dX9_evening_307 : decode cX9_evening 307 = .ok (.iload 10, 2) := by decide +kernel
theorem dX9_evening_309 : decode cX9_evening 309 = .ok (.ishr, 1) := by decide +kernel
theorem dX9_evening_310 : decode cX9_evening 310 = .ok (.iconst 1, 1) := by decide +kernel
theorem dX9_evening_311 : decode cX9_evening 311 = .ok (.iand, 1) := by decide +kernel
theorem dX9_evening_312 : decode cX9_evening 312 = .ok (.iconst 1, 1) := by decide +kernel
theorem dX9_evening_313 : decode cX9_evening 313 = .ok (.if_icmp .ne 24, 3) := by decide +kernel
theorem dX9_evening_316 : decode cX9_evening 316 = .ok (.aload_n 0, 1) := by decide +kernel
theorem dX9_evening_317 : decode cX9_evening 317 = .ok (.getfield 7, 3) := by decide +kernel
theorem dX9_evening_320 : decode cX9_evening 320 = .ok (.bipush 109, 2) := by decide +kernel
theorem dX9_evening_322 : decode cX9_evening 322 = .ok (.bipush 8, 2) := by decide +kernel
theorem dX9_evening_324 : decode cX9_evening 324 = .ok (.iload 10, 2) := by decide +kernel
theorem dX9_evening_326 : decode cX9_evening 326 = .ok (.imul, 1) := by decide +kernel
theorem dX9_evening_327 : decode cX9_evening 327 = .ok (.iadd, 1) := by decide +kernel
theorem dX9_evening_328 : decode cX9_evening 328 = .ok (.iload_n 2, 1) := by decide +kernel
theorem dX9_evening_329 : decode cX9_evening 329 = .ok (.iadd, 1) := by decide +kernel
theorem dX9_evening_330 : decode cX9_evening 330 = .ok (.aload_n 0, 1) := by decide +kernel
theorem dX9_evening_331 : decode cX9_evening 331 = .ok (.getfield 7, 3) := by decide +kernel
theorem dX9_evening_334 : decode cX9_evening 334 = .ok (.iconst 3, 1) := by decide +kernel
theorem dX9_evening_335 : decode cX9_evening 335 = .ok (.iaload, 1) := by decide +kernel
theorem dX9_evening_336 : decode cX9_evening 336 = .ok (.iastore, 1) := by decide +kernel
theorem dX9_evening_337 : decode cX9_evening 337 = .ok (.iinc 10 1, 3) := by decide +kernel
theorem dX9_evening_340 : decode cX9_evening 340 = .ok (.goto (-157), 3) := by decide +kernel
theorem dX9_evening_343 : decode cX9_evening 343 = .ok (.iload 8, 2) := by decide +kernel
theorem dX9_evening_345 : decode cX9_evening 345 = .ok (.aload_n 0, 1) := by decide +kernel
theorem dX9_evening_346 : decode cX9_evening 346 = .ok (.getfield 7, 3) := by decide +kernel
theorem dX9_evening_349 : decode cX9_evening 349 = .ok (.bipush 81, 2) := by decide +kernel
theorem dX9_evening_351 : decode cX9_evening 351 = .ok (.iload_n 2, 1) := by decide +kernel
theorem dX9_evening_352 : decode cX9_evening 352 = .ok (.iadd, 1) := by decide +kernel
theorem dX9_evening_353 : decode cX9_evening 353 = .ok (.iaload, 1) := by decide +kernel
theorem dX9_evening_354 : decode cX9_evening 354 = .ok (.if_icmp .ne 7, 3) := by decide +kernel
theorem dX9_evening_357 : decode cX9_evening 357 = .ok (.iconst 1, 1) := by decide +kernel
theorem dX9_evening_358 : decode cX9_evening 358 = .ok (.goto 4, 3) := by decide +kernel
theorem dX9_evening_361 : decode cX9_evening 361 = .ok (.iconst 0, 1) := by decide +kernel
theorem dX9_evening_362 : decode cX9_evening 362 = .ok (.istore 10, 2) := by decide +kernel
theorem dX9_evening_364 : decode cX9_evening 364 = .ok (.aload_n 0, 1) := by decide +kernel
theorem dX9_evening_365 : decode cX9_evening 365 = .ok (.getfield 7, 3) := by decide +kernel
theorem dX9_evening_368 : decode cX9_evening 368 = .ok (.iconst 4, 1) := by decide +kernel
theorem dX9_evening_369 : decode cX9_evening 369 = .ok (.iload 10, 2) := by decide +kernel
theorem dX9_evening_371 : decode cX9_evening 371 = .ok (.ifCond .eq 8, 3) := by decide +kernel
theorem dX9_evening_374 : decode cX9_evening 374 = .ok (.bipush (-4), 2) := by decide +kernel
theorem dX9_evening_376 : decode cX9_evening 376 = .ok (.goto 4, 3) := by decide +kernel
theorem dX9_evening_379 : decode cX9_evening 379 = .ok (.iload_n 2, 1) := by decide +kernel
theorem dX9_evening_380 : decode cX9_evening 380 = .ok (.iastore, 1) := by decide +kernel
theorem dX9_evening_381 : decode cX9_evening 381 = .ok (.aload_n 0, 1) := by decide +kernel
theorem dX9_evening_382 : decode cX9_evening 382 = .ok (.getfield 7, 3) := by decide +kernel
theorem dX9_evening_385 : decode cX9_evening 385 = .ok (.iconst 5, 1) := by decide +kernel
theorem dX9_evening_386 : decode cX9_evening 386 = .ok (.iload 10, 2) := by decide +kernel
theorem dX9_evening_388 : decode cX9_evening 388 = .ok (.ifCond .eq 8, 3) := by decide +kernel
theorem dX9_evening_391 : decode cX9_evening 391 = .ok (.bipush (-4), 2) := by decide +kernel
theorem dX9_evening_393 : decode cX9_evening 393 = .ok (.goto 4, 3) := by decide +kernel
theorem dX9_evening_396 : decode cX9_evening 396 = .ok (.iload_n 1, 1) := by decide +kernel
theorem dX9_evening_397 : decode cX9_evening 397 = .ok (.iastore, 1) := by decide +kernel
theorem dX9_evening_398 : decode cX9_evening 398 = .ok (.aload_n 0, 1) := by decide +kernel
theorem dX9_evening_399 : decode cX9_evening 399 = .ok (.getfield 7, 3) := by decide +kernel
theorem dX9_evening_402 : decode cX9_evening 402 = .ok (.bipush 6, 2) := by decide +kernel
theorem dX9_evening_404 : decode cX9_evening 404 = .ok (.iload 10, 2) := by decide +kernel
theorem dX9_evening_406 : decode cX9_evening 406 = .ok (.ifCond .eq 8, 3) := by decide +kernel
theorem dX9_evening_409 : decode cX9_evening 409 = .ok (.bipush (-4), 2) := by decide +kernel
theorem dX9_evening_411 : decode cX9_evening 411 = .ok (.goto 5, 3) := by decide +kernel
theorem dX9_evening_414 : decode cX9_evening 414 = .ok (.iload 8, 2) := by decide +kernel
theorem dX9_evening_416 : decode cX9_evening 416 = .ok (.iastore, 1) := by decide +kernel
theorem dX9_evening_417 : decode cX9_evening 417 = .ok (.aload_n 0, 1) := by decide +kernel
theorem dX9_evening_418 : decode cX9_evening 418 = .ok (.getfield 7, 3) := by decide +kernel
theorem dX9_evening_421 : decode cX9_evening 421 = .ok (.bipush 7, 2) := by decide +kernel
theorem dX9_evening_423 : decode cX9_evening 423 = .ok (.iload 10, 2) := by decide +kernel
theorem dX9_evening_425 : decode cX9_evening 425 = .ok (.ifCond .eq 7, 3) := by decide +kernel
theorem dX9_evening_428 : decode cX9_evening 428 = .ok (.iconst 0, 1) := by decide +kernel
theorem dX9_evening_429 : decode cX9_evening 429 = .ok (.goto 5, 3) := by decide +kernel
theorem dX9_evening_432 : decode cX9_evening 432 = .ok (.iload 7, 2) := by decide +kernel
theorem dX9_evening_434 : decode cX9_evening 434 = .ok (.iastore, 1) := by decide +kernel
theorem dX9_evening_435 : decode cX9_evening 435 = .ok (.iload 9, 2) := by decide +kernel
theorem dX9_evening_437 : decode cX9_evening 437 = .ok (.ireturn, 1) := by decide +kernel
theorem dX9_sortsBy_0 : decode cX9_sortsBy 0 = .ok (.iconst 0, 1) := by decide +kernel
theorem dX9_sortsBy_1 : decode cX9_sortsBy 1 = .ok (.istore_n 3, 1) := by decide +kernel
theorem dX9_sortsBy_2 : decode cX9_sortsBy 2 = .ok (.iload_n 3, 1) := by decide +kernel
theorem dX9_sortsBy_3 : decode cX9_sortsBy 3 = .ok (.bipush 8, 2) := by decide +kernel
theorem dX9_sortsBy_5 : decode cX9_sortsBy 5 = .ok (.if_icmp .ge 29, 3) := by decide +kernel
theorem dX9_sortsBy_8 : decode cX9_sortsBy 8 = .ok (.aload_n 0, 1) := by decide +kernel
theorem dX9_sortsBy_9 : decode cX9_sortsBy 9 = .ok (.getfield 34, 3) := by decide +kernel
theorem dX9_sortsBy_12 : decode cX9_sortsBy 12 = .ok (.iload_n 3, 1) := by decide +kernel
theorem dX9_sortsBy_13 : decode cX9_sortsBy 13 = .ok (.aload_n 0, 1) := by decide +kernel
theorem dX9_sortsBy_14 : decode cX9_sortsBy 14 = .ok (.getfield 7, 3) := by decide +kernel
theorem dX9_sortsBy_17 : decode cX9_sortsBy 17 = .ok (.bipush 109, 2) := by decide +kernel
theorem dX9_sortsBy_19 : decode cX9_sortsBy 19 = .ok (.bipush 8, 2) := by decide +kernel
theorem dX9_sortsBy_21 : decode cX9_sortsBy 21 = .ok (.iload_n 1, 1) := by decide +kernel
theorem dX9_sortsBy_22 : decode cX9_sortsBy 22 = .ok (.imul, 1) := by decide +kernel
theorem dX9_sortsBy_23 : decode cX9_sortsBy 23 = .ok (.iadd, 1) := by decide +kernel
theorem dX9_sortsBy_24 : decode cX9_sortsBy 24 = .ok (.iload_n 3, 1) := by decide +kernel
theorem dX9_sortsBy_25 : decode cX9_sortsBy 25 = .ok (.iadd, 1) := by decide +kernel
theorem dX9_sortsBy_26 : decode cX9_sortsBy 26 = .ok (.iaload, 1) := by decide +kernel
theorem dX9_sortsBy_27 : decode cX9_sortsBy 27 = .ok (.iastore, 1) := by decide +kernel
theorem dX9_sortsBy_28 : decode cX9_sortsBy 28 = .ok (.iinc 3 1, 3) := by decide +kernel
theorem dX9_sortsBy_31 : decode cX9_sortsBy 31 = .ok (.goto (-29), 3) := by decide +kernel
theorem dX9_sortsBy_34 : decode cX9_sortsBy 34 = .ok (.iconst 0, 1) := by decide +kernel
theorem dX9_sortsBy_35 : decode cX9_sortsBy 35 = .ok (.istore_n 3, 1) := by decide +kernel
theorem dX9_sortsBy_36 : decode cX9_sortsBy 36 = .ok (.iconst 0, 1) := by decide +kernel
theorem dX9_sortsBy_37 : decode cX9_sortsBy 37 = .ok (.istore 4, 2) := by decide +kernel
theorem dX9_sortsBy_39 : decode cX9_sortsBy 39 = .ok (.iload 4, 2) := by decide +kernel
theorem dX9_sortsBy_41 : decode cX9_sortsBy 41 = .ok (.iload_n 2, 1) := by decide +kernel
theorem dX9_sortsBy_42 : decode cX9_sortsBy 42 = .ok (.if_icmp .ge 122, 3) := by decide +kernel
theorem dX9_sortsBy_45 : decode cX9_sortsBy 45 = .ok (.aload_n 0, 1) := by decide +kernel
theorem dX9_sortsBy_46 : decode cX9_sortsBy 46 = .ok (.getfield 28, 3) := by decide +kernel
theorem dX9_sortsBy_49 : decode cX9_sortsBy 49 = .ok (.iload 4, 2) := by decide +kernel
theorem dX9_sortsBy_51 : decode cX9_sortsBy 51 = .ok (.iaload, 1) := by decide +kernel
theorem dX9_sortsBy_52 : decode cX9_sortsBy 52 = .ok (.istore 5, 2) := by decide +kernel
theorem dX9_sortsBy_54 : decode cX9_sortsBy 54 = .ok (.aload_n 0, 1) := by decide +kernel
theorem dX9_sortsBy_55 : decode cX9_sortsBy 55 = .ok (.getfield 7, 3) := by decide +kernel
theorem dX9_sortsBy_58 : decode cX9_sortsBy 58 = .ok (.iconst 3, 1) := by decide +kernel
theorem dX9_sortsBy_59 : decode cX9_sortsBy 59 = .ok (.iaload, 1) := by decide +kernel
theorem dX9_sortsBy_60 : decode cX9_sortsBy 60 = .ok (.iconst 1, 1) := by decide +kernel
theorem dX9_sortsBy_61 : decode cX9_sortsBy 61 = .ok (.iadd, 1) := by decide +kernel
theorem dX9_sortsBy_62 : decode cX9_sortsBy 62 = .ok (.iload 4, 2) := by decide +kernel
theorem dX9_sortsBy_64 : decode cX9_sortsBy 64 = .ok (.iadd, 1) := by decide +kernel
theorem dX9_sortsBy_65 : decode cX9_sortsBy 65 = .ok (.istore 6, 2) := by decide +kernel
theorem dX9_sortsBy_67 : decode cX9_sortsBy 67 = .ok (.aload_n 0, 1) := by decide +kernel
theorem dX9_sortsBy_68 : decode cX9_sortsBy 68 = .ok (.aload_n 0, 1) := by decide +kernel
theorem dX9_sortsBy_69 : decode cX9_sortsBy 69 = .ok (.getfield 34, 3) := by decide +kernel
theorem dX9_sortsBy_72 : decode cX9_sortsBy 72 = .ok (.iload 5, 2) := by decide +kernel
theorem dX9_sortsBy_74 : decode cX9_sortsBy 74 = .ok (.iaload, 1) := by decide +kernel
theorem dX9_sortsBy_75 : decode cX9_sortsBy 75 = .ok (.iload 6, 2) := by decide +kernel
theorem dX9_sortsBy_77 : decode cX9_sortsBy 77 = .ok (.invokevirtual 102, 3) := by decide +kernel
theorem dX9_sortsBy_80 : decode cX9_sortsBy 80 = .ok (.istore 7, 2) := by decide +kernel
theorem dX9_sortsBy_82 : decode cX9_sortsBy 82 = .ok (.iconst 0, 1) := by decide +kernel
theorem dX9_sortsBy_83 : decode cX9_sortsBy 83 = .ok (.istore 8, 2) := by decide +kernel
theorem dX9_sortsBy_85 : decode cX9_sortsBy 85 = .ok (.iload 8, 2) := by decide +kernel
theorem dX9_sortsBy_87 : decode cX9_sortsBy 87 = .ok (.aload_n 0, 1) := by decide +kernel
theorem dX9_sortsBy_88 : decode cX9_sortsBy 88 = .ok (.getfield 7, 3) := by decide +kernel
theorem dX9_sortsBy_91 : decode cX9_sortsBy 91 = .ok (.bipush 81, 2) := by decide +kernel
theorem dX9_sortsBy_93 : decode cX9_sortsBy 93 = .ok (.iload 5, 2) := by decide +kernel
theorem dX9_sortsBy_95 : decode cX9_sortsBy 95 = .ok (.iadd, 1) := by decide +kernel
theorem dX9_sortsBy_96 : decode cX9_sortsBy 96 = .ok (.iaload, 1) := by decide +kernel
theorem dX9_sortsBy_97 : decode cX9_sortsBy 97 = .ok (.if_icmp .ge 52, 3) := by decide +kernel
theorem dX9_sortsBy_100 : decode cX9_sortsBy 100 = .ok (.aload_n 0, 1) := by decide +kernel
theorem dX9_sortsBy_101 : decode cX9_sortsBy 101 = .ok (.getfield 7, 3) := by decide +kernel
theorem dX9_sortsBy_104 : decode cX9_sortsBy 104 = .ok (.bipush 9, 2) := by decide +kernel
theorem dX9_sortsBy_106 : decode cX9_sortsBy 106 = .ok (.bipush 9, 2) := by decide +kernel
theorem dX9_sortsBy_108 : decode cX9_sortsBy 108 = .ok (.iload 5, 2) := by decide +kernel
theorem dX9_sortsBy_110 : decode cX9_sortsBy 110 = .ok (.imul, 1) := by decide +kernel
theorem dX9_sortsBy_111 : decode cX9_sortsBy 111 = .ok (.iadd, 1) := by decide +kernel
theorem dX9_sortsBy_112 : decode cX9_sortsBy 112 = .ok (.iload 8, 2) := by decide +kernel
theorem dX9_sortsBy_114 : decode cX9_sortsBy 114 = .ok (.iadd, 1) := by decide +kernel
theorem dX9_sortsBy_115 : decode cX9_sortsBy 115 = .ok (.iaload, 1) := by decide +kernel
theorem dX9_sortsBy_116 : decode cX9_sortsBy 116 = .ok (.invokestatic 111, 3) := by decide +kernel
theorem dX9_sortsBy_119 : decode cX9_sortsBy 119 = .ok (.istore 9, 2) := by decide +kernel
theorem dX9_sortsBy_121 : decode cX9_sortsBy 121 = .ok (.iload_n 3, 1) := by decide +kernel
theorem dX9_sortsBy_122 : decode cX9_sortsBy 122 = .ok (.iload 7, 2) := by decide +kernel
theorem dX9_sortsBy_124 : decode cX9_sortsBy 124 = .ok (.ifCond .eq 15, 3) := by decide +kernel
theorem dX9_sortsBy_127 : decode cX9_sortsBy 127 = .ok (.iload 9, 2) := by decide +kernel
theorem dX9_sortsBy_129 : decode cX9_sortsBy 129 = .ok (.ifCond .le 10, 3) := by decide +kernel
theorem dX9_sortsBy_132 : decode cX9_sortsBy 132 = .ok (.iload 9, 2) := by decide +kernel
theorem dX9_sortsBy_134 : decode cX9_sortsBy 134 = .ok (.iconst 1, 1) := by decide +kernel
theorem dX9_sortsBy_135 : decode cX9_sortsBy 135 = .ok (.isub, 1) := by decide +kernel
theorem dX9_sortsBy_136 : decode cX9_sortsBy 136 = .ok (.goto 5, 3) := by decide +kernel
theorem dX9_sortsBy_139 : decode cX9_sortsBy 139 = .ok (.iload 9, 2) := by decide +kernel
theorem dX9_sortsBy_141 : decode cX9_sortsBy 141 = .ok (.iadd, 1) := by decide +kernel
theorem dX9_sortsBy_142 : decode cX9_sortsBy 142 = .ok (.istore_n 3, 1) := by decide +kernel
theorem dX9_sortsBy_143 : decode cX9_sortsBy 143 = .ok (.iinc 8 1, 3) := by decide +kernel
theorem dX9_sortsBy_146 : decode cX9_sortsBy 146 = .ok (.goto (-61), 3) := by decide +kernel
theorem dX9_sortsBy_149 : decode cX9_sortsBy 149 = .ok (.aload_n 0, 1) := by decide +kernel
theorem dX9_sortsBy_150 : decode cX9_sortsBy 150 = .ok (.getfield 34, 3) := by decide +kernel
theorem dX9_sortsBy_153 : decode cX9_sortsBy 153 = .ok (.iload 5, 2) := by decide +kernel
theorem dX9_sortsBy_155 : decode cX9_sortsBy 155 = .ok (.iload 6, 2) := by decide +kernel
theorem dX9_sortsBy_157 : decode cX9_sortsBy 157 = .ok (.iastore, 1) := by decide +kernel
theorem dX9_sortsBy_158 : decode cX9_sortsBy 158 = .ok (.iinc 4 1, 3) := by decide +kernel
theorem dX9_sortsBy_161 : decode cX9_sortsBy 161 = .ok (.goto (-122), 3) := by decide +kernel
theorem dX9_sortsBy_164 : decode cX9_sortsBy 164 = .ok (.iload_n 3, 1) := by decide +kernel
theorem dX9_sortsBy_165 : decode cX9_sortsBy 165 = .ok (.ireturn, 1) := by decide +kernel
theorem dX9_store_0 : decode cX9_store 0 = .ok (.aload_n 0, 1) := by decide +kernel
theorem dX9_store_1 : decode cX9_store 1 = .ok (.iload_n 1, 1) := by decide +kernel
theorem dX9_store_2 : decode cX9_store 2 = .ok (.invokevirtual 97, 3) := by decide +kernel
theorem dX9_store_5 : decode cX9_store 5 = .ok (.ifCond .eq 30, 3) := by decide +kernel
theorem dX9_store_8 : decode cX9_store 8 = .ok (.iload_n 2, 1) := by decide +kernel
theorem dX9_store_9 : decode cX9_store 9 = .ok (.i2l, 1) := by decide +kernel
theorem dX9_store_10 : decode cX9_store 10 = .ok (.lconst 1, 1) := by decide +kernel
theorem dX9_store_11 : decode cX9_store 11 = .ok (.ldc2_w 115, 3) := by decide +kernel
theorem dX9_store_14 : decode cX9_store 14 = .ok (.invokestatic 52, 3) := by decide +kernel
theorem dX9_store_17 : decode cX9_store 17 = .ok (.ifCond .eq 18, 3) := by decide +kernel
theorem dX9_store_20 : decode cX9_store 20 = .ok (.iload_n 3, 1) := by decide +kernel
theorem dX9_store_21 : decode cX9_store 21 = .ok (.i2l, 1) := by decide +kernel
theorem dX9_store_22 : decode cX9_store 22 = .ok (.ldc2_w 117, 3) := by decide +kernel
theorem dX9_store_25 : decode cX9_store 25 = .ok (.iload_n 2, 1) := by decide +kernel
theorem dX9_store_26 : decode cX9_store 26 = .ok (.iconst 1, 1) := by decide +kernel
theorem dX9_store_27 : decode cX9_store 27 = .ok (.isub, 1) := by decide +kernel
theorem dX9_store_28 : decode cX9_store 28 = .ok (.i2l, 1) := by decide +kernel
theorem dX9_store_29 : decode cX9_store 29 = .ok (.invokestatic 52, 3) := by decide +kernel
theorem dX9_store_32 : decode cX9_store 32 = .ok (.ifCond .ne 5, 3) := by decide +kernel
theorem dX9_store_35 : decode cX9_store 35 = .ok (.iconst (-1), 1) := by decide +kernel
theorem dX9_store_36 : decode cX9_store 36 = .ok (.ireturn, 1) := by decide +kernel
theorem dX9_store_37 : decode cX9_store 37 = .ok (.aload_n 0, 1) := by decide +kernel
theorem dX9_store_38 : decode cX9_store 38 = .ok (.getfield 7, 3) := by decide +kernel
theorem dX9_store_41 : decode cX9_store 41 = .ok (.iconst 0, 1) := by decide +kernel
theorem dX9_store_42 : decode cX9_store 42 = .ok (.iaload, 1) := by decide +kernel
theorem dX9_store_43 : decode cX9_store 43 = .ok (.istore 4, 2) := by decide +kernel
theorem dX9_store_45 : decode cX9_store 45 = .ok (.iload 4, 2) := by decide +kernel
theorem dX9_store_47 : decode cX9_store 47 = .ok (.ifCond .ne 6, 3) := by decide +kernel
theorem dX9_store_50 : decode cX9_store 50 = .ok (.bipush (-4), 2) := by decide +kernel
theorem dX9_store_52 : decode cX9_store 52 = .ok (.ireturn, 1) := by decide +kernel
theorem dX9_store_53 : decode cX9_store 53 = .ok (.iconst 1, 1) := by decide +kernel
theorem dX9_store_54 : decode cX9_store 54 = .ok (.istore 5, 2) := by decide +kernel
theorem dX9_store_56 : decode cX9_store 56 = .ok (.iconst 0, 1) := by decide +kernel
theorem dX9_store_57 : decode cX9_store 57 = .ok (.istore 6, 2) := by decide +kernel
theorem dX9_store_59 : decode cX9_store 59 = .ok (.iload 6, 2) := by decide +kernel
theorem dX9_store_61 : decode cX9_store 61 = .ok (.iload_n 2, 1) := by decide +kernel
theorem dX9_store_62 : decode cX9_store 62 = .ok (.if_icmp .ge 16, 3) := by decide +kernel
theorem dX9_store_65 : decode cX9_store 65 = .ok (.iload 5, 2) := by decide +kernel
theorem dX9_store_67 : decode cX9_store 67 = .ok (.iload 4, 2) := by decide +kernel
theorem dX9_store_69 : decode cX9_store 69 = .ok (.imul, 1) := by decide +kernel
theorem dX9_store_70 : decode cX9_store 70 = .ok (.istore 5, 2) := by decide +kernel
theorem dX9_store_72 : decode cX9_store 72 = .ok (.iinc 6 1, 3) := by decide +kernel
theorem dX9_store_75 : decode cX9_store 75 = .ok (.goto (-16), 3) := by decide +kernel
theorem dX9_store_78 : decode cX9_store 78 = .ok (.iconst (-1), 1) := by decide +kernel
theorem dX9_store_79 : decode cX9_store 79 = .ok (.istore 6, 2) := by decide +kernel
theorem dX9_store_81 : decode cX9_store 81 = .ok (.iconst 0, 1) := by decide +kernel
theorem dX9_store_82 : decode cX9_store 82 = .ok (.istore 7, 2) := by decide +kernel
theorem dX9_store_84 : decode cX9_store 84 = .ok (.iload 7, 2) := by decide +kernel
theorem dX9_store_86 : decode cX9_store 86 = .ok (.iload 5, 2) := by decide +kernel
theorem dX9_store_88 : decode cX9_store 88 = .ok (.if_icmp .ge 96, 3) := by decide +kernel
theorem dX9_store_91 : decode cX9_store 91 = .ok (.iload 7, 2) := by decide +kernel
theorem dX9_store_93 : decode cX9_store 93 = .ok (.istore 8, 2) := by decide +kernel
theorem dX9_store_95 : decode cX9_store 95 = .ok (.iload_n 2, 1) := by decide +kernel
theorem dX9_store_96 : decode cX9_store 96 = .ok (.iconst 1, 1) := by decide +kernel
theorem dX9_store_97 : decode cX9_store 97 = .ok (.isub, 1) := by decide +kernel
theorem dX9_store_98 : decode cX9_store 98 = .ok (.istore 9, 2) := by decide +kernel
theorem dX9_store_100 : decode cX9_store 100 = .ok (.iload 9, 2) := by decide +kernel
theorem dX9_store_102 : decode cX9_store 102 = .ok (.ifCond .lt 28, 3) := by decide +kernel
theorem dX9_store_105 : decode cX9_store 105 = .ok (.aload_n 0, 1) := by decide +kernel
theorem dX9_store_106 : decode cX9_store 106 = .ok (.getfield 28, 3) := by decide +kernel
theorem dX9_store_109 : decode cX9_store 109 = .ok (.iload 9, 2) := by decide +kernel
theorem dX9_store_111 : decode cX9_store 111 = .ok (.iload 8, 2) := by decide +kernel
theorem dX9_store_113 : decode cX9_store 113 = .ok (.iload 4, 2) := by decide +kernel
theorem dX9_store_115 : decode cX9_store 115 = .ok (.irem, 1) := by decide +kernel
theorem dX9_store_116 : decode cX9_store 116 = .ok (.iastore, 1) := by decide +kernel
theorem dX9_store_117 : decode cX9_store 117 = .ok (.iload 8, 2) := by decide +kernel
theorem dX9_store_119 : decode cX9_store 119 = .ok (.iload 4, 2) := by decide +kernel
theorem dX9_store_121 : decode cX9_store 121 = .ok (.idiv, 1) := by decide +kernel
theorem dX9_store_122 : decode cX9_store 122 = .ok (.istore 8, 2) := by decide +kernel
theorem dX9_store_124 : decode cX9_store 124 = .ok (.iinc 9 (-1), 3) := by decide +kernel
theorem dX9_store_127 : decode cX9_store 127 = .ok (.goto (-27), 3) := by decide +kernel
theorem dX9_store_130 : decode cX9_store 130 = .ok (.aload_n 0, 1) := by decide +kernel
theorem dX9_store_131 : decode cX9_store 131 = .ok (.iload_n 1, 1) := by decide +kernel
theorem dX9_store_132 : decode cX9_store 132 = .ok (.iload_n 2, 1) := by decide +kernel
theorem dX9_store_133 : decode cX9_store 133 = .ok (.invokevirtual 119, 3) := by decide +kernel
theorem dX9_store_136 : decode cX9_store 136 = .ok (.istore 9, 2) := by decide +kernel
theorem dX9_store_138 : decode cX9_store 138 = .ok (.iload 9, 2) := by decide +kernel
theorem dX9_store_140 : decode cX9_store 140 = .ok (.iload 6, 2) := by decide +kernel
theorem dX9_store_142 : decode cX9_store 142 = .ok (.if_icmp .le 36, 3) := by decide +kernel
theorem dX9_store_145 : decode cX9_store 145 = .ok (.iload 9, 2) := by decide +kernel
theorem dX9_store_147 : decode cX9_store 147 = .ok (.istore 6, 2) := by decide +kernel
theorem dX9_store_149 : decode cX9_store 149 = .ok (.iconst 0, 1) := by decide +kernel
theorem dX9_store_150 : decode cX9_store 150 = .ok (.istore 10, 2) := by decide +kernel
theorem dX9_store_152 : decode cX9_store 152 = .ok (.iload 10, 2) := by decide +kernel
theorem dX9_store_154 : decode cX9_store 154 = .ok (.iload_n 2, 1) := by decide +kernel
theorem dX9_store_155 : decode cX9_store 155 = .ok (.if_icmp .ge 23, 3) := by decide +kernel
theorem dX9_store_158 : decode cX9_store 158 = .ok (.aload_n 0, 1) := by decide +kernel
theorem dX9_store_159 : decode cX9_store 159 = .ok (.getfield 31, 3) := by decide +kernel
theorem dX9_store_162 : decode cX9_store 162 = .ok (.iload 10, 2) := by decide +kernel
theorem dX9_store_164 : decode cX9_store 164 = .ok (.aload_n 0, 1) := by decide +kernel
theorem dX9_store_165 : decode cX9_store 165 = .ok (.getfield 28, 3) := by decide +kernel
theorem dX9_store_168 : decode cX9_store 168 = .ok (.iload 10, 2) := by decide +kernel
theorem dX9_store_170 : decode cX9_store 170 = .ok (.iaload, 1) := by decide +kernel
theorem dX9_store_171 : decode cX9_store 171 = .ok (.iastore, 1) := by decide +kernel
theorem dX9_store_172 : decode cX9_store 172 = .ok (.iinc 10 1, 3) := by decide +kernel
theorem dX9_store_175 : decode cX9_store 175 = .ok (.goto (-23), 3) := by decide +kernel
theorem dX9_store_178 : decode cX9_store 178 = .ok (.iinc 7 1, 3) := by decide +kernel
theorem dX9_store_181 : decode cX9_store 181 = .ok (.goto (-97), 3) := by decide +kernel
theorem dX9_store_184 : decode cX9_store 184 = .ok (.iload_n 3, 1) := by decide +kernel
theorem dX9_store_185 : decode cX9_store 185 = .ok (.ifCond .ge 8, 3) := by decide +kernel
theorem dX9_store_188 : decode cX9_store 188 = .ok (.iload 6, 2) := by decide +kernel
theorem dX9_store_190 : decode cX9_store 190 = .ok (.goto 9, 3) := by decide +kernel
theorem dX9_store_193 : decode cX9_store 193 = .ok (.aload_n 0, 1) := by decide +kernel
theorem dX9_store_194 : decode cX9_store 194 = .ok (.getfield 31, 3) := by decide +kernel
theorem dX9_store_197 : decode cX9_store 197 = .ok (.iload_n 3, 1) := by decide +kernel
theorem dX9_store_198 : decode cX9_store 198 = .ok (.iaload, 1) := by decide +kernel
theorem dX9_store_199 : decode cX9_store 199 = .ok (.ireturn, 1) := by decide +kernel
theorem dX9_points_0 : decode cX9_points 0 = .ok (.iconst 0, 1) := by decide +kernel
theorem dX9_points_1 : decode cX9_points 1 = .ok (.istore 6, 2) := by decide +kernel
theorem dX9_points_3 : decode cX9_points 3 = .ok (.iload 6, 2) := by decide +kernel
theorem dX9_points_5 : decode cX9_points 5 = .ok (.aload_n 0, 1) := by decide +kernel
theorem dX9_points_6 : decode cX9_points 6 = .ok (.getfield 7, 3) := by decide +kernel
theorem dX9_points_9 : decode cX9_points 9 = .ok (.bipush 81, 2) := by decide +kernel
theorem dX9_points_11 : decode cX9_points 11 = .ok (.iload_n 2, 1) := by decide +kernel
theorem dX9_points_12 : decode cX9_points 12 = .ok (.iadd, 1) := by decide +kernel
theorem dX9_points_13 : decode cX9_points 13 = .ok (.iaload, 1) := by decide +kernel
theorem dX9_points_14 : decode cX9_points 14 = .ok (.if_icmp .ge 22, 3) := by decide +kernel
theorem dX9_points_17 : decode cX9_points 17 = .ok (.aload_n 0, 1) := by decide +kernel
theorem dX9_points_18 : decode cX9_points 18 = .ok (.iload_n 1, 1) := by decide +kernel
theorem dX9_points_19 : decode cX9_points 19 = .ok (.iload_n 2, 1) := by decide +kernel
theorem dX9_points_20 : decode cX9_points 20 = .ok (.iload 6, 2) := by decide +kernel
theorem dX9_points_22 : decode cX9_points 22 = .ok (.invokevirtual 93, 3) := by decide +kernel
theorem dX9_points_25 : decode cX9_points 25 = .ok (.iload 4, 2) := by decide +kernel
theorem dX9_points_27 : decode cX9_points 27 = .ok (.if_icmp .lt 9, 3) := by decide +kernel
theorem dX9_points_30 : decode cX9_points 30 = .ok (.iinc 6 1, 3) := by decide +kernel
theorem dX9_points_33 : decode cX9_points 33 = .ok (.goto (-30), 3) := by decide +kernel
theorem dX9_points_36 : decode cX9_points 36 = .ok (.iload 6, 2) := by decide +kernel
theorem dX9_points_38 : decode cX9_points 38 = .ok (.iload_n 3, 1) := by decide +kernel
theorem dX9_points_39 : decode cX9_points 39 = .ok (.if_icmp .ge 8, 3) := by decide +kernel
theorem dX9_points_42 : decode cX9_points 42 = .ok (.iload 6, 2) := by decide +kernel
theorem dX9_points_44 : decode cX9_points 44 = .ok (.goto 4, 3) := by decide +kernel
theorem dX9_points_47 : decode cX9_points 47 = .ok (.iload_n 3, 1) := by decide +kernel
theorem dX9_points_48 : decode cX9_points 48 = .ok (.istore 7, 2) := by decide +kernel
theorem dX9_points_50 : decode cX9_points 50 = .ok (.iload 5, 2) := by decide +kernel
theorem dX9_points_52 : decode cX9_points 52 = .ok (.ifCond .ne 18, 3) := by decide +kernel
theorem dX9_points_55 : decode cX9_points 55 = .ok (.iload 7, 2) := by decide +kernel
theorem dX9_points_57 : decode cX9_points 57 = .ok (.iload 6, 2) := by decide +kernel
theorem dX9_points_59 : decode cX9_points 59 = .ok (.iload_n 3, 1) := by decide +kernel
theorem dX9_points_60 : decode cX9_points 60 = .ok (.if_icmp .ge 7, 3) := by decide +kernel
theorem dX9_points_63 : decode cX9_points 63 = .ok (.iconst 3, 1) := by decide +kernel
theorem dX9_points_64 : decode cX9_points 64 = .ok (.goto 4, 3) := by decide +kernel
theorem dX9_points_67 : decode cX9_points 67 = .ok (.iconst 0, 1) := by decide +kernel
theorem dX9_points_68 : decode cX9_points 68 = .ok (.isub, 1) := by decide +kernel
theorem dX9_points_69 : decode cX9_points 69 = .ok (.ireturn, 1) := by decide +kernel
theorem dX9_points_70 : decode cX9_points 70 = .ok (.iconst 0, 1) := by decide +kernel
theorem dX9_points_71 : decode cX9_points 71 = .ok (.istore 8, 2) := by decide +kernel
theorem dX9_points_73 : decode cX9_points 73 = .ok (.iconst 0, 1) := by decide +kernel
theorem dX9_points_74 : decode cX9_points 74 = .ok (.istore 9, 2) := by decide +kernel
theorem dX9_points_76 : decode cX9_points 76 = .ok (.iload 9, 2) := by decide +kernel
theorem dX9_points_78 : decode cX9_points 78 = .ok (.iload 7, 2) := by decide +kernel
theorem dX9_points_80 : decode cX9_points 80 = .ok (.if_icmp .ge 27, 3) := by decide +kernel
theorem dX9_points_83 : decode cX9_points 83 = .ok (.iload 8, 2) := by decide +kernel
theorem dX9_points_85 : decode cX9_points 85 = .ok (.aload_n 0, 1) := by decide +kernel
theorem dX9_points_86 : decode cX9_points 86 = .ok (.iload_n 1, 1) := by decide +kernel
theorem dX9_points_87 : decode cX9_points 87 = .ok (.iload_n 2, 1) := by decide +kernel
theorem dX9_points_88 : decode cX9_points 88 = .ok (.iload 9, 2) := by decide +kernel
theorem dX9_points_90 : decode cX9_points 90 = .ok (.invokevirtual 93, 3) := by decide +kernel
theorem dX9_points_93 : decode cX9_points 93 = .ok (.invokestatic 111, 3) := by decide +kernel
theorem dX9_points_96 : decode cX9_points 96 = .ok (.iconst 1, 1) := by decide +kernel
theorem dX9_points_97 : decode cX9_points 97 = .ok (.isub, 1) := by decide +kernel
theorem dX9_points_98 : decode cX9_points 98 = .ok (.iadd, 1) := by decide +kernel
theorem dX9_points_99 : decode cX9_points 99 = .ok (.istore 8, 2) := by decide +kernel
theorem dX9_points_101 : decode cX9_points 101 = .ok (.iinc 9 1, 3) := by decide +kernel
theorem dX9_points_104 : decode cX9_points 104 = .ok (.goto (-28), 3) := by decide +kernel
theorem dX9_points_107 : decode cX9_points 107 = .ok (.iload 8, 2) := by decide +kernel
theorem dX9_points_109 : decode cX9_points 109 = .ok (.ireturn, 1) := by decide +kernel
theorem dX9_play_0 : decode cX9_play 0 = .ok (.aload_n 0, 1) := by decide +kernel
theorem dX9_play_1 : decode cX9_play 1 = .ok (.iload_n 1, 1) := by decide +kernel
theorem dX9_play_2 : decode cX9_play 2 = .ok (.invokevirtual 90, 3) := by decide +kernel
theorem dX9_play_5 : decode cX9_play 5 = .ok (.ifCond .eq 54, 3) := by decide +kernel
theorem dX9_play_8 : decode cX9_play 8 = .ok (.aload_n 0, 1) := by decide +kernel
theorem dX9_play_9 : decode cX9_play 9 = .ok (.iload_n 2, 1) := by decide +kernel
theorem dX9_play_10 : decode cX9_play 10 = .ok (.invokevirtual 72, 3) := by decide +kernel
theorem dX9_play_13 : decode cX9_play 13 = .ok (.ifCond .eq 46, 3) := by decide +kernel
theorem dX9_play_16 : decode cX9_play 16 = .ok (.iload_n 3, 1) := by decide +kernel
theorem dX9_play_17 : decode cX9_play 17 = .ok (.i2l, 1) := by decide +kernel
theorem dX9_play_18 : decode cX9_play 18 = .ok (.lconst 1, 1) := by decide +kernel
theorem dX9_play_19 : decode cX9_play 19 = .ok (.aload_n 0, 1) := by decide +kernel
theorem dX9_play_20 : decode cX9_play 20 = .ok (.getfield 7, 3) := by decide +kernel
theorem dX9_play_23 : decode cX9_play 23 = .ok (.bipush 81, 2) := by decide +kernel
theorem dX9_play_25 : decode cX9_play 25 = .ok (.iload_n 2, 1) := by decide +kernel
theorem dX9_play_26 : decode cX9_play 26 = .ok (.iadd, 1) := by decide +kernel
theorem dX9_play_27 : decode cX9_play 27 = .ok (.iaload, 1) := by decide +kernel
theorem dX9_play_28 : decode cX9_play 28 = .ok (.i2l, 1) := by decide +kernel
theorem dX9_play_29 : decode cX9_play 29 = .ok (.invokestatic 52, 3) := by decide +kernel
theorem dX9_play_32 : decode cX9_play 32 = .ok (.ifCond .eq 27, 3) := by decide +kernel
theorem dX9_play_35 : decode cX9_play 35 = .ok (.iload 4, 2) := by decide +kernel
theorem dX9_play_37 : decode cX9_play 37 = .ok (.i2l, 1) := by decide +kernel
theorem dX9_play_38 : decode cX9_play 38 = .ok (.lconst 0, 1) := by decide +kernel
theorem dX9_play_39 : decode cX9_play 39 = .ok (.ldc2_w 80, 3) := by decide +kernel
theorem dX9_play_42 : decode cX9_play 42 = .ok (.invokestatic 52, 3) := by decide +kernel
theorem dX9_play_45 : decode cX9_play 45 = .ok (.ifCond .eq 14, 3) := by decide +kernel
theorem dX9_play_48 : decode cX9_play 48 = .ok (.iload 5, 2) := by decide +kernel
theorem dX9_play_50 : decode cX9_play 50 = .ok (.i2l, 1) := by decide +kernel
theorem dX9_play_51 : decode cX9_play 51 = .ok (.lconst 0, 1) := by decide +kernel
theorem dX9_play_52 : decode cX9_play 52 = .ok (.lconst 1, 1) := by decide +kernel
theorem dX9_play_53 : decode cX9_play 53 = .ok (.invokestatic 52, 3) := by decide +kernel
theorem dX9_play_56 : decode cX9_play 56 = .ok (.ifCond .ne 6, 3) := by decide +kernel
theorem dX9_play_59 : decode cX9_play 59 = .ok (.ldc 122, 2) := by decide +kernel
theorem dX9_play_61 : decode cX9_play 61 = .ok (.ireturn, 1) := by decide +kernel
theorem dX9_play_62 : decode cX9_play 62 = .ok (.aload_n 0, 1) := by decide +kernel
theorem dX9_play_63 : decode cX9_play 63 = .ok (.iload_n 1, 1) := by decide +kernel
theorem dX9_play_64 : decode cX9_play 64 = .ok (.iload_n 2, 1) := by decide +kernel
theorem dX9_play_65 : decode cX9_play 65 = .ok (.iload_n 3, 1) := by decide +kernel
theorem dX9_play_66 : decode cX9_play 66 = .ok (.iload 4, 2) := by decide +kernel
theorem dX9_play_68 : decode cX9_play 68 = .ok (.iload 5, 2) := by decide +kernel
theorem dX9_play_70 : decode cX9_play 70 = .ok (.invokevirtual 123, 3) := by decide +kernel
theorem dX9_play_73 : decode cX9_play 73 = .ok (.ireturn, 1) := by decide +kernel
theorem dX9_rests_0 : decode cX9_rests 0 = .ok (.aload_n 0, 1) := by decide +kernel
theorem dX9_rests_1 : decode cX9_rests 1 = .ok (.iload_n 1, 1) := by decide +kernel
theorem dX9_rests_2 : decode cX9_rests 2 = .ok (.invokevirtual 90, 3) := by decide +kernel
theorem dX9_rests_5 : decode cX9_rests 5 = .ok (.ifCond .eq 21, 3) := by decide +kernel
theorem dX9_rests_8 : decode cX9_rests 8 = .ok (.aload_n 0, 1) := by decide +kernel
theorem dX9_rests_9 : decode cX9_rests 9 = .ok (.iload_n 2, 1) := by decide +kernel
theorem dX9_rests_10 : decode cX9_rests 10 = .ok (.invokevirtual 72, 3) := by decide +kernel
theorem dX9_rests_13 : decode cX9_rests 13 = .ok (.ifCond .eq 13, 3) := by decide +kernel
theorem dX9_rests_16 : decode cX9_rests 16 = .ok (.iload_n 3, 1) := by decide +kernel
theorem dX9_rests_17 : decode cX9_rests 17 = .ok (.i2l, 1) := by decide +kernel
theorem dX9_rests_18 : decode cX9_rests 18 = .ok (.lconst 0, 1) := by decide +kernel
theorem dX9_rests_19 : decode cX9_rests 19 = .ok (.lconst 1, 1) := by decide +kernel
theorem dX9_rests_20 : decode cX9_rests 20 = .ok (.invokestatic 52, 3) := by decide +kernel
theorem dX9_rests_23 : decode cX9_rests 23 = .ok (.ifCond .ne 5, 3) := by decide +kernel
theorem dX9_rests_26 : decode cX9_rests 26 = .ok (.iconst (-1), 1) := by decide +kernel
theorem dX9_rests_27 : decode cX9_rests 27 = .ok (.ireturn, 1) := by decide +kernel
theorem dX9_rests_28 : decode cX9_rests 28 = .ok (.iconst 0, 1) := by decide +kernel
theorem dX9_rests_29 : decode cX9_rests 29 = .ok (.istore 4, 2) := by decide +kernel
theorem dX9_rests_31 : decode cX9_rests 31 = .ok (.bipush (-4), 2) := by decide +kernel
theorem dX9_rests_33 : decode cX9_rests 33 = .ok (.istore 5, 2) := by decide +kernel
theorem dX9_rests_35 : decode cX9_rests 35 = .ok (.iconst 1, 1) := by decide +kernel
theorem dX9_rests_36 : decode cX9_rests 36 = .ok (.istore 6, 2) := by decide +kernel
theorem dX9_rests_38 : decode cX9_rests 38 = .ok (.iload 6, 2) := by decide +kernel
theorem dX9_rests_40 : decode cX9_rests 40 = .ok (.aload_n 0, 1) := by decide +kernel
theorem dX9_rests_41 : decode cX9_rests 41 = .ok (.getfield 7, 3) := by decide +kernel
theorem dX9_rests_44 : decode cX9_rests 44 = .ok (.bipush 81, 2) := by decide +kernel
theorem dX9_rests_46 : decode cX9_rests 46 = .ok (.iload_n 2, 1) := by decide +kernel
theorem dX9_rests_47 : decode cX9_rests 47 = .ok (.iadd, 1) := by decide +kernel
theorem dX9_rests_48 : decode cX9_rests 48 = .ok (.iaload, 1) := by decide +kernel
theorem dX9_rests_49 : decode cX9_rests 49 = .ok (.if_icmp .gt 183, 3) := by decide +kernel
theorem dX9_rests_52 : decode cX9_rests 52 = .ok (.iconst 0, 1) := by decide +kernel
theorem dX9_rests_53 : decode cX9_rests 53 = .ok (.istore 7, 2) := by decide +kernel
theorem dX9_rests_55 : decode cX9_rests 55 = .ok (.iload 7, 2) := by decide +kernel
theorem dX9_rests_57 : decode cX9_rests 57 = .ok (.bipush 10, 2) := by decide +kernel
theorem dX9_rests_59 : decode cX9_rests 59 = .ok (.if_icmp .ge 167, 3) := by decide +kernel
theorem dX9_rests_62 : decode cX9_rests 62 = .ok (.iconst 1, 1) := by decide +kernel
theorem dX9_rests_63 : decode cX9_rests 63 = .ok (.istore 8, 2) := by decide +kernel
theorem dX9_rests_65 : decode cX9_rests 65 = .ok (.iconst 1, 1) := by decide +kernel
theorem dX9_rests_66 : decode cX9_rests 66 = .ok (.istore 9, 2) := by decide +kernel
theorem dX9_rests_68 : decode cX9_rests 68 = .ok (.iload 9, 2) := by decide +kernel
theorem dX9_rests_70 : decode cX9_rests 70 = .ok (.aload_n 0, 1) := by decide +kernel
theorem dX9_rests_71 : decode cX9_rests 71 = .ok (.getfield 7, 3) := by decide +kernel
theorem dX9_rests_74 : decode cX9_rests 74 = .ok (.bipush 81, 2) := by decide +kernel
theorem dX9_rests_76 : decode cX9_rests 76 = .ok (.iload_n 2, 1) := by decide +kernel
theorem dX9_rests_77 : decode cX9_rests 77 = .ok (.iadd, 1) := by decide +kernel
theorem dX9_rests_78 : decode cX9_rests 78 = .ok (.iaload, 1) := by decide +kernel
theorem dX9_rests_79 : decode cX9_rests 79 = .ok (.if_icmp .gt 46, 3) := by decide +kernel
theorem dX9_rests_82 : decode cX9_rests 82 = .ok (.iload 8, 2) := by decide +kernel
theorem dX9_rests_84 : decode cX9_rests 84 = .ok (.ifCond .eq 32, 3) := by decide +kernel
theorem dX9_rests_87 : decode cX9_rests 87 = .ok (.aload_n 0, 1) := by decide +kernel
theorem dX9_rests_88 : decode cX9_rests 88 = .ok (.iload_n 1, 1) := by decide +kernel
theorem dX9_rests_89 : decode cX9_rests 89 = .ok (.iload_n 2, 1) := by decide +kernel
theorem dX9_rests_90 : decode cX9_rests 90 = .ok (.iload 9, 2) := by decide +kernel
theorem dX9_rests_92 : decode cX9_rests 92 = .ok (.iload 7, 2) := by decide +kernel
theorem dX9_rests_94 : decode cX9_rests 94 = .ok (.iconst 0, 1) := by decide +kernel
theorem dX9_rests_95 : decode cX9_rests 95 = .ok (.invokevirtual 123, 3) := by decide +kernel
theorem dX9_rests_98 : decode cX9_rests 98 = .ok (.aload_n 0, 1) := by decide +kernel
theorem dX9_rests_99 : decode cX9_rests 99 = .ok (.iload_n 1, 1) := by decide +kernel
theorem dX9_rests_100 : decode cX9_rests 100 = .ok (.iload_n 2, 1) := by decide +kernel
theorem dX9_rests_101 : decode cX9_rests 101 = .ok (.iload 6, 2) := by decide +kernel
theorem dX9_rests_103 : decode cX9_rests 103 = .ok (.iload 7, 2) := by decide +kernel
theorem dX9_rests_105 : decode cX9_rests 105 = .ok (.iconst 0, 1) := by decide +kernel
theorem dX9_rests_106 : decode cX9_rests 106 = .ok (.invokevirtual 123, 3) := by decide +kernel
theorem dX9_rests_109 : decode cX9_rests 109 = .ok (.if_icmp .gt 7, 3) := by decide +kernel
theorem dX9_rests_112 : decode cX9_rests 112 = .ok (.iconst 1, 1) := by decide +kernel
theorem dX9_rests_113 : decode cX9_rests 113 = .ok (.goto 4, 3) := by decide +kernel
theorem dX9_rests_116 : decode cX9_rests 116 = .ok (.iconst 0, 1) := by decide +kernel
theorem dX9_rests_117 : decode cX9_rests 117 = .ok (.istore 8, 2) := by decide +kernel
theorem dX9_rests_119 : decode cX9_rests 119 = .ok (.iinc 9 1, 3) := by decide +kernel
theorem dX9_rests_122 : decode cX9_rests 122 = .ok (.goto (-54), 3) := by decide +kernel
theorem dX9_rests_125 : decode cX9_rests 125 = .ok (.iconst 0, 1) := by decide +kernel
theorem dX9_rests_126 : decode cX9_rests 126 = .ok (.istore 9, 2) := by decide +kernel
theorem dX9_rests_128 : decode cX9_rests 128 = .ok (.iload 9, 2) := by decide +kernel
theorem dX9_rests_130 : decode cX9_rests 130 = .ok (.bipush 10, 2) := by decide +kernel
theorem dX9_rests_132 : decode cX9_rests 132 = .ok (.if_icmp .ge 46, 3) := by decide +kernel
theorem dX9_rests_135 : decode cX9_rests 135 = .ok (.iload 8, 2) := by decide +kernel
theorem dX9_rests_137 : decode cX9_rests 137 = .ok (.ifCond .eq 32, 3) := by decide +kernel
theorem dX9_rests_140 : decode cX9_rests 140 = .ok (.aload_n 0, 1) := by decide +kernel
theorem dX9_rests_141 : decode cX9_rests 141 = .ok (.iload_n 1, 1) := by decide +kernel
theorem dX9_rests_142 : decode cX9_rests 142 = .ok (.iload_n 2, 1) := by decide +kernel
theorem dX9_rests_143 : decode cX9_rests 143 = .ok (.iload 6, 2) := by decide +kernel
theorem dX9_rests_145 : decode cX9_rests 145 = .ok (.iload 9, 2) := by decide +kernel
theorem dX9_rests_147 : decode cX9_rests 147 = .ok (.iconst 1, 1) := by decide +kernel
theorem dX9_rests_148 : decode cX9_rests 148 = .ok (.invokevirtual 123, 3) := by decide +kernel
theorem dX9_rests_151 : decode cX9_rests 151 = .ok (.aload_n 0, 1) := by decide +kernel
theorem dX9_rests_152 : decode cX9_rests 152 = .ok (.iload_n 1, 1) := by decide +kernel
theorem dX9_rests_153 : decode cX9_rests 153 = .ok (.iload_n 2, 1) := by decide +kernel
theorem dX9_rests_154 : decode cX9_rests 154 = .ok (.iload 6, 2) := by decide +kernel
theorem dX9_rests_156 : decode cX9_rests 156 = .ok (.iload 7, 2) := by decide +kernel
theorem dX9_rests_158 : decode cX9_rests 158 = .ok (.iconst 1, 1) := by decide +kernel
theorem dX9_rests_159 : decode cX9_rests 159 = .ok (.invokevirtual 123, 3) := by decide +kernel
theorem dX9_rests_162 : decode cX9_rests 162 = .ok (.if_icmp .gt 7, 3) := by decide +kernel
theorem dX9_rests_165 : decode cX9_rests 165 = .ok (.iconst 1, 1) := by decide +kernel
theorem dX9_rests_166 : decode cX9_rests 166 = .ok (.goto 4, 3) := by decide +kernel
theorem dX9_rests_169 : decode cX9_rests 169 = .ok (.iconst 0, 1) := by decide +kernel
theorem dX9_rests_170 : decode cX9_rests 170 = .ok (.istore 8, 2) := by decide +kernel
theorem dX9_rests_172 : decode cX9_rests 172 = .ok (.iinc 9 1, 3) := by decide +kernel
theorem dX9_rests_175 : decode cX9_rests 175 = .ok (.goto (-47), 3) := by decide +kernel
theorem dX9_rests_178 : decode cX9_rests 178 = .ok (.iload 4, 2) := by decide +kernel
theorem dX9_rests_180 : decode cX9_rests 180 = .ok (.iload 8, 2) := by decide +kernel
theorem dX9_rests_182 : decode cX9_rests 182 = .ok (.ifCond .eq 7, 3) := by decide +kernel
theorem dX9_rests_185 : decode cX9_rests 185 = .ok (.iconst 1, 1) := by decide +kernel
theorem dX9_rests_186 : decode cX9_rests 186 = .ok (.goto 4, 3) := by decide +kernel
theorem dX9_rests_189 : decode cX9_rests 189 = .ok (.iconst 0, 1) := by decide +kernel
theorem dX9_rests_190 : decode cX9_rests 190 = .ok (.iadd, 1) := by decide +kernel
theorem dX9_rests_191 : decode cX9_rests 191 = .ok (.istore 4, 2) := by decide +kernel
theorem dX9_rests_193 : decode cX9_rests 193 = .ok (.iload 8, 2) := by decide +kernel
theorem dX9_rests_195 : decode cX9_rests 195 = .ok (.ifCond .eq 21, 3) := by decide +kernel
theorem dX9_rests_198 : decode cX9_rests 198 = .ok (.iload 5, 2) := by decide +kernel
theorem dX9_rests_200 : decode cX9_rests 200 = .ok (.bipush (-4), 2) := by decide +kernel
theorem dX9_rests_202 : decode cX9_rests 202 = .ok (.if_icmp .ne 14, 3) := by decide +kernel
theorem dX9_rests_205 : decode cX9_rests 205 = .ok (.bipush 10, 2) := by decide +kernel
theorem dX9_rests_207 : decode cX9_rests 207 = .ok (.iload 6, 2) := by decide +kernel
theorem dX9_rests_209 : decode cX9_rests 209 = .ok (.imul, 1) := by decide +kernel
theorem dX9_rests_210 : decode cX9_rests 210 = .ok (.iload 7, 2) := by decide +kernel
theorem dX9_rests_212 : decode cX9_rests 212 = .ok (.iadd, 1) := by decide +kernel
theorem dX9_rests_213 : decode cX9_rests 213 = .ok (.goto 5, 3) := by decide +kernel
theorem dX9_rests_216 : decode cX9_rests 216 = .ok (.iload 5, 2) := by decide +kernel
theorem dX9_rests_218 : decode cX9_rests 218 = .ok (.istore 5, 2) := by decide +kernel
theorem dX9_rests_220 : decode cX9_rests 220 = .ok (.iinc 7 1, 3) := by decide +kernel
theorem dX9_rests_223 : decode cX9_rests 223 = .ok (.goto (-168), 3) := by decide +kernel
theorem dX9_rests_226 : decode cX9_rests 226 = .ok (.iinc 6 1, 3) := by decide +kernel
theorem dX9_rests_229 : decode cX9_rests 229 = .ok (.goto (-191), 3) := by decide +kernel
theorem dX9_rests_232 : decode cX9_rests 232 = .ok (.iload_n 3, 1) := by decide +kernel
theorem dX9_rests_233 : decode cX9_rests 233 = .ok (.ifCond .ne 8, 3) := by decide +kernel
theorem dX9_rests_236 : decode cX9_rests 236 = .ok (.iload 4, 2) := by decide +kernel
theorem dX9_rests_238 : decode cX9_rests 238 = .ok (.goto 5, 3) := by decide +kernel
theorem dX9_rests_241 : decode cX9_rests 241 = .ok (.iload 5, 2) := by decide +kernel
theorem dX9_rests_243 : decode cX9_rests 243 = .ok (.ireturn, 1) := by decide +kernel
theorem dX9_image_0 : decode cX9_image 0 = .ok (.iconst 0, 1) := by decide +kernel
theorem dX9_image_1 : decode cX9_image 1 = .ok (.istore_n 1, 1) := by decide +kernel
theorem dX9_image_2 : decode cX9_image 2 = .ok (.iload_n 1, 1) := by decide +kernel
theorem dX9_image_3 : decode cX9_image 3 = .ok (.sipush 141, 3) := by decide +kernel
theorem dX9_image_6 : decode cX9_image 6 = .ok (.if_icmp .ge 21, 3) := by decide +kernel
theorem dX9_image_9 : decode cX9_image 9 = .ok (.aload_n 0, 1) := by decide +kernel
theorem dX9_image_10 : decode cX9_image 10 = .ok (.getfield 13, 3) := by decide +kernel
theorem dX9_image_13 : decode cX9_image 13 = .ok (.iload_n 1, 1) := by decide +kernel
theorem dX9_image_14 : decode cX9_image 14 = .ok (.aload_n 0, 1) := by decide +kernel
theorem dX9_image_15 : decode cX9_image 15 = .ok (.getfield 7, 3) := by decide +kernel
theorem dX9_image_18 : decode cX9_image 18 = .ok (.iload_n 1, 1) := by decide +kernel
theorem dX9_image_19 : decode cX9_image 19 = .ok (.iaload, 1) := by decide +kernel
theorem dX9_image_20 : decode cX9_image 20 = .ok (.iastore, 1) := by decide +kernel
theorem dX9_image_21 : decode cX9_image 21 = .ok (.iinc 1 1, 3) := by decide +kernel
theorem dX9_image_24 : decode cX9_image 24 = .ok (.goto (-22), 3) := by decide +kernel
theorem dX9_image_27 : decode cX9_image 27 = .ok (.aload_n 0, 1) := by decide +kernel
theorem dX9_image_28 : decode cX9_image 28 = .ok (.iconst 1, 1) := by decide +kernel
theorem dX9_image_29 : decode cX9_image 29 = .ok (.putfield 127, 3) := by decide +kernel
theorem dX9_image_32 : decode cX9_image 32 = .ok (.iconst 1, 1) := by decide +kernel
theorem dX9_image_33 : decode cX9_image 33 = .ok (.ireturn, 1) := by decide +kernel
theorem dX9_restore_0 : decode cX9_restore 0 = .ok (.aload_n 0, 1) := by decide +kernel
theorem dX9_restore_1 : decode cX9_restore 1 = .ok (.getfield 127, 3) := by decide +kernel
theorem dX9_restore_4 : decode cX9_restore 4 = .ok (.ifCond .ne 6, 3) := by decide +kernel
theorem dX9_restore_7 : decode cX9_restore 7 = .ok (.bipush (-4), 2) := by decide +kernel
theorem dX9_restore_9 : decode cX9_restore 9 = .ok (.ireturn, 1) := by decide +kernel
theorem dX9_restore_10 : decode cX9_restore 10 = .ok (.iconst 0, 1) := by decide +kernel
theorem dX9_restore_11 : decode cX9_restore 11 = .ok (.istore_n 1, 1) := by decide +kernel
theorem dX9_restore_12 : decode cX9_restore 12 = .ok (.iload_n 1, 1) := by decide +kernel
theorem dX9_restore_13 : decode cX9_restore 13 = .ok (.sipush 141, 3) := by decide +kernel
theorem dX9_restore_16 : decode cX9_restore 16 = .ok (.if_icmp .ge 21, 3) := by decide +kernel
theorem dX9_restore_19 : decode cX9_restore 19 = .ok (.aload_n 0, 1) := by decide +kernel
theorem dX9_restore_20 : decode cX9_restore 20 = .ok (.getfield 7, 3) := by decide +kernel
theorem dX9_restore_23 : decode cX9_restore 23 = .ok (.iload_n 1, 1) := by decide +kernel
theorem dX9_restore_24 : decode cX9_restore 24 = .ok (.aload_n 0, 1) := by decide +kernel
theorem dX9_restore_25 : decode cX9_restore 25 = .ok (.getfield 13, 3) := by decide +kernel
theorem dX9_restore_28 : decode cX9_restore 28 = .ok (.iload_n 1, 1) := by decide +kernel
theorem dX9_restore_29 : decode cX9_restore 29 = .ok (.iaload, 1) := by decide +kernel
theorem dX9_restore_30 : decode cX9_restore 30 = .ok (.iastore, 1) := by decide +kernel
theorem dX9_restore_31 : decode cX9_restore 31 = .ok (.iinc 1 1, 3) := by decide +kernel
theorem dX9_restore_34 : decode cX9_restore 34 = .ok (.goto (-22), 3) := by decide +kernel
theorem dX9_restore_37 : decode cX9_restore 37 = .ok (.iconst 1, 1) := by decide +kernel
theorem dX9_restore_38 : decode cX9_restore 38 = .ok (.ireturn, 1) := by decide +kernel
theorem dX9_isSheet_0 : decode cX9_isSheet 0 = .ok (.iload_n 0, 1) := by decide +kernel
theorem dX9_isSheet_1 : decode cX9_isSheet 1 = .ok (.i2l, 1) := by decide +kernel
theorem dX9_isSheet_2 : decode cX9_isSheet 2 = .ok (.lconst 0, 1) := by decide +kernel
theorem dX9_isSheet_3 : decode cX9_isSheet 3 = .ok (.ldc2_w 82, 3) := by decide +kernel
theorem dX9_isSheet_6 : decode cX9_isSheet 6 = .ok (.invokestatic 52, 3) := by decide +kernel
theorem dX9_isSheet_9 : decode cX9_isSheet 9 = .ok (.ifCond .eq 19, 3) := by decide +kernel
theorem dX9_isSheet_12 : decode cX9_isSheet 12 = .ok (.iload_n 1, 1) := by decide +kernel
theorem dX9_isSheet_13 : decode cX9_isSheet 13 = .ok (.i2l, 1) := by decide +kernel
theorem dX9_isSheet_14 : decode cX9_isSheet 14 = .ok (.lconst 0, 1) := by decide +kernel
theorem dX9_isSheet_15 : decode cX9_isSheet 15 = .ok (.ldc2_w 131, 3) := by decide +kernel
theorem dX9_isSheet_18 : decode cX9_isSheet 18 = .ok (.invokestatic 52, 3) := by decide +kernel
theorem dX9_isSheet_21 : decode cX9_isSheet 21 = .ok (.ifCond .eq 7, 3) := by decide +kernel
theorem dX9_isSheet_24 : decode cX9_isSheet 24 = .ok (.iconst 1, 1) := by decide +kernel
theorem dX9_isSheet_25 : decode cX9_isSheet 25 = .ok (.goto 4, 3) := by decide +kernel
theorem dX9_isSheet_28 : decode cX9_isSheet 28 = .ok (.iconst 0, 1) := by decide +kernel
theorem dX9_isSheet_29 : decode cX9_isSheet 29 = .ok (.ireturn, 1) := by decide +kernel
theorem dX9_found_0 : decode cX9_found 0 = .ok (.aload_n 0, 1) := by decide +kernel
theorem dX9_found_1 : decode cX9_found 1 = .ok (.getfield 19, 3) := by decide +kernel
theorem dX9_found_4 : decode cX9_found 4 = .ok (.iload_n 1, 1) := by decide +kernel
theorem dX9_found_5 : decode cX9_found 5 = .ok (.iaload, 1) := by decide +kernel
theorem dX9_found_6 : decode cX9_found 6 = .ok (.ifCond .ge 8, 3) := by decide +kernel
theorem dX9_found_9 : decode cX9_found 9 = .ok (.bipush (-11), 2) := by decide +kernel
theorem dX9_found_11 : decode cX9_found 11 = .ok (.goto 45, 3) := by decide +kernel
theorem dX9_found_14 : decode cX9_found 14 = .ok (.aload_n 0, 1) := by decide +kernel
theorem dX9_found_15 : decode cX9_found 15 = .ok (.getfield 22, 3) := by decide +kernel
theorem dX9_found_18 : decode cX9_found 18 = .ok (.iload_n 1, 1) := by decide +kernel
theorem dX9_found_19 : decode cX9_found 19 = .ok (.iaload, 1) := by decide +kernel
theorem dX9_found_20 : decode cX9_found 20 = .ok (.iload_n 2, 1) := by decide +kernel
theorem dX9_found_21 : decode cX9_found 21 = .ok (.if_icmp .eq 8, 3) := by decide +kernel
theorem dX9_found_24 : decode cX9_found 24 = .ok (.bipush (-12), 2) := by decide +kernel
theorem dX9_found_26 : decode cX9_found 26 = .ok (.goto 30, 3) := by decide +kernel
theorem dX9_found_29 : decode cX9_found 29 = .ok (.iload_n 3, 1) := by decide +kernel
theorem dX9_found_30 : decode cX9_found 30 = .ok (.ifCond .lt 20, 3) := by decide +kernel
theorem dX9_found_33 : decode cX9_found 33 = .ok (.iload_n 3, 1) := by decide +kernel
theorem dX9_found_34 : decode cX9_found 34 = .ok (.i2l, 1) := by decide +kernel
theorem dX9_found_35 : decode cX9_found 35 = .ok (.iload 4, 2) := by decide +kernel
theorem dX9_found_37 : decode cX9_found 37 = .ok (.i2l, 1) := by decide +kernel
theorem dX9_found_38 : decode cX9_found 38 = .ok (.ladd, 1) := by decide +kernel
theorem dX9_found_39 : decode cX9_found 39 = .ok (.aload_n 0, 1) := by decide +kernel
theorem dX9_found_40 : decode cX9_found 40 = .ok (.getfield 19, 3) := by decide +kernel
theorem dX9_found_43 : decode cX9_found 43 = .ok (.iload_n 1, 1) := by decide +kernel
theorem dX9_found_44 : decode cX9_found 44 = .ok (.iaload, 1) := by decide +kernel
theorem dX9_found_45 : decode cX9_found 45 = .ok (.i2l, 1) := by decide +kernel
theorem dX9_found_46 : decode cX9_found 46 = .ok (.lcmp, 1) := by decide +kernel
theorem dX9_found_47 : decode cX9_found 47 = .ok (.ifCond .le 8, 3) := by decide +kernel
theorem dX9_found_50 : decode cX9_found 50 = .ok (.bipush (-13), 2) := by decide +kernel
theorem dX9_found_52 : decode cX9_found 52 = .ok (.goto 4, 3) := by decide +kernel
theorem dX9_found_55 : decode cX9_found 55 = .ok (.iconst 0, 1) := by decide +kernel
theorem dX9_found_56 : decode cX9_found 56 = .ok (.ireturn, 1) := by decide +kernel
theorem dX9_barred_0 : decode cX9_barred 0 = .ok (.aload_n 0, 1) := by decide +kernel
theorem dX9_barred_1 : decode cX9_barred 1 = .ok (.iload_n 1, 1) := by decide +kernel
theorem dX9_barred_2 : decode cX9_barred 2 = .ok (.iload_n 2, 1) := by decide +kernel
theorem dX9_barred_3 : decode cX9_barred 3 = .ok (.iload_n 3, 1) := by decide +kernel
theorem dX9_barred_4 : decode cX9_barred 4 = .ok (.iload 4, 2) := by decide +kernel
theorem dX9_barred_6 : decode cX9_barred 6 = .ok (.invokevirtual 133, 3) := by decide +kernel
theorem dX9_barred_9 : decode cX9_barred 9 = .ok (.istore 6, 2) := by decide +kernel
theorem dX9_barred_11 : decode cX9_barred 11 = .ok (.iconst 0, 1) := by decide +kernel
theorem dX9_barred_12 : decode cX9_barred 12 = .ok (.istore 7, 2) := by decide +kernel
theorem dX9_barred_14 : decode cX9_barred 14 = .ok (.iload 7, 2) := by decide +kernel
theorem dX9_barred_16 : decode cX9_barred 16 = .ok (.iload 4, 2) := by decide +kernel
theorem dX9_barred_18 : decode cX9_barred 18 = .ok (.if_icmp .ge 47, 3) := by decide +kernel
theorem dX9_barred_21 : decode cX9_barred 21 = .ok (.iload 6, 2) := by decide +kernel
theorem dX9_barred_23 : decode cX9_barred 23 = .ok (.ifCond .ne 42, 3) := by decide +kernel
theorem dX9_barred_26 : decode cX9_barred 26 = .ok (.aload_n 0, 1) := by decide +kernel
theorem dX9_barred_27 : decode cX9_barred 27 = .ok (.getfield 25, 3) := by decide +kernel
theorem dX9_barred_30 : decode cX9_barred 30 = .ok (.bipush 24, 2) := by decide +kernel
theorem dX9_barred_32 : decode cX9_barred 32 = .ok (.iload_n 1, 1) := by decide +kernel
theorem dX9_barred_33 : decode cX9_barred 33 = .ok (.imul, 1) := by decide +kernel
theorem dX9_barred_34 : decode cX9_barred 34 = .ok (.iload_n 3, 1) := by decide +kernel
theorem dX9_barred_35 : decode cX9_barred 35 = .ok (.iadd, 1) := by decide +kernel
theorem dX9_barred_36 : decode cX9_barred 36 = .ok (.iload 7, 2) := by decide +kernel
theorem dX9_barred_38 : decode cX9_barred 38 = .ok (.iadd, 1) := by decide +kernel
theorem dX9_barred_39 : decode cX9_barred 39 = .ok (.iaload, 1) := by decide +kernel
theorem dX9_barred_40 : decode cX9_barred 40 = .ok (.i2l, 1) := by decide +kernel
theorem dX9_barred_41 : decode cX9_barred 41 = .ok (.lconst 0, 1) := by decide +kernel
theorem dX9_barred_42 : decode cX9_barred 42 = .ok (.iload 5, 2) := by decide +kernel
theorem dX9_barred_44 : decode cX9_barred 44 = .ok (.i2l, 1) := by decide +kernel
theorem dX9_barred_45 : decode cX9_barred 45 = .ok (.invokestatic 52, 3) := by decide +kernel
theorem dX9_barred_48 : decode cX9_barred 48 = .ok (.ifCond .eq 7, 3) := by decide +kernel
theorem dX9_barred_51 : decode cX9_barred 51 = .ok (.iconst 0, 1) := by decide +kernel
theorem dX9_barred_52 : decode cX9_barred 52 = .ok (.goto 5, 3) := by decide +kernel
theorem dX9_barred_55 : decode cX9_barred 55 = .ok (.bipush (-2), 2) := by decide +kernel
theorem dX9_barred_57 : decode cX9_barred 57 = .ok (.istore 6, 2) := by decide +kernel
theorem dX9_barred_59 : decode cX9_barred 59 = .ok (.iinc 7 1, 3) := by decide +kernel
theorem dX9_barred_62 : decode cX9_barred 62 = .ok (.goto (-48), 3) := by decide +kernel
theorem dX9_barred_65 : decode cX9_barred 65 = .ok (.iload 6, 2) := by decide +kernel
theorem dX9_barred_67 : decode cX9_barred 67 = .ok (.ireturn, 1) := by decide +kernel
theorem dX9_measures_0 : decode cX9_measures 0 = .ok (.iconst 0, 1) := by decide +kernel
theorem dX9_measures_1 : decode cX9_measures 1 = .ok (.istore_n 2, 1) := by decide +kernel
theorem dX9_measures_2 : decode cX9_measures 2 = .ok (.iload_n 2, 1) := by decide +kernel
theorem dX9_measures_3 : decode cX9_measures 3 = .ok (.sipush 128, 3) := by decide +kernel
theorem dX9_measures_6 : decode cX9_measures 6 = .ok (.if_icmp .ge 16, 3) := by decide +kernel
theorem dX9_measures_9 : decode cX9_measures 9 = .ok (.aload_n 0, 1) := by decide +kernel
theorem dX9_measures_10 : decode cX9_measures 10 = .ok (.getfield 37, 3) := by decide +kernel
theorem dX9_measures_13 : decode cX9_measures 13 = .ok (.iload_n 2, 1) := by decide +kernel
theorem dX9_measures_14 : decode cX9_measures 14 = .ok (.iconst 0, 1) := by decide +kernel
theorem dX9_measures_15 : decode cX9_measures 15 = .ok (.iastore, 1) := by decide +kernel
theorem dX9_measures_16 : decode cX9_measures 16 = .ok (.iinc 2 1, 3) := by decide +kernel
theorem dX9_measures_19 : decode cX9_measures 19 = .ok (.goto (-17), 3) := by decide +kernel
theorem dX9_measures_22 : decode cX9_measures 22 = .ok (.iconst 0, 1) := by decide +kernel
theorem dX9_measures_23 : decode cX9_measures 23 = .ok (.istore_n 2, 1) := by decide +kernel
theorem dX9_measures_24 : decode cX9_measures 24 = .ok (.iload_n 2, 1) := by decide +kernel
theorem dX9_measures_25 : decode cX9_measures 25 = .ok (.aload_n 0, 1) := by decide +kernel
theorem dX9_measures_26 : decode cX9_measures 26 = .ok (.getfield 7, 3) := by decide +kernel
theorem dX9_measures_29 : decode cX9_measures 29 = .ok (.iconst 0, 1) := by decide +kernel
theorem dX9_measures_30 : decode cX9_measures 30 = .ok (.iaload, 1) := by decide +kernel
theorem dX9_measures_31 : decode cX9_measures 31 = .ok (.if_icmp .ge 118, 3) := by decide +kernel
theorem dX9_measures_34 : decode cX9_measures 34 = .ok (.aload_n 0, 1) := by decide +kernel
theorem dX9_measures_35 : decode cX9_measures 35 = .ok (.iload_n 1, 1) := by decide +kernel
theorem dX9_measures_36 : decode cX9_measures 36 = .ok (.iload_n 2, 1) := by decide +kernel
theorem dX9_measures_37 : decode cX9_measures 37 = .ok (.aload_n 0, 1) := by decide +kernel
theorem dX9_measures_38 : decode cX9_measures 38 = .ok (.getfield 7, 3) := by decide +kernel
theorem dX9_measures_41 : decode cX9_measures 41 = .ok (.iconst 3, 1) := by decide +kernel
theorem dX9_measures_42 : decode cX9_measures 42 = .ok (.iaload, 1) := by decide +kernel
theorem dX9_measures_43 : decode cX9_measures 43 = .ok (.iconst 1, 1) := by decide +kernel
theorem dX9_measures_44 : decode cX9_measures 44 = .ok (.iadd, 1) := by decide +kernel
theorem dX9_measures_45 : decode cX9_measures 45 = .ok (.invokevirtual 105, 3) := by decide +kernel
theorem dX9_measures_48 : decode cX9_measures 48 = .ok (.istore_n 3, 1) := by decide +kernel
theorem dX9_measures_49 : decode cX9_measures 49 = .ok (.iconst 0, 1) := by decide +kernel
theorem dX9_measures_50 : decode cX9_measures 50 = .ok (.istore 4, 2) := by decide +kernel
theorem dX9_measures_52 : decode cX9_measures 52 = .ok (.iload 4, 2) := by decide +kernel
theorem dX9_measures_54 : decode cX9_measures 54 = .ok (.aload_n 0, 1) := by decide +kernel
theorem dX9_measures_55 : decode cX9_measures 55 = .ok (.getfield 7, 3) := by decide +kernel
theorem dX9_measures_58 : decode cX9_measures 58 = .ok (.iconst 1, 1) := by decide +kernel
theorem dX9_measures_59 : decode cX9_measures 59 = .ok (.iaload, 1) := by decide +kernel
theorem dX9_measures_60 : decode cX9_measures 60 = .ok (.if_icmp .ge 83, 3) := by decide +kernel
theorem dX9_measures_63 : decode cX9_measures 63 = .ok (.iconst 0, 1) := by decide +kernel
theorem dX9_measures_64 : decode cX9_measures 64 = .ok (.istore 5, 2) := by decide +kernel
theorem dX9_measures_66 : decode cX9_measures 66 = .ok (.iload 5, 2) := by decide +kernel
theorem dX9_measures_68 : decode cX9_measures 68 = .ok (.aload_n 0, 1) := by decide +kernel
theorem dX9_measures_69 : decode cX9_measures 69 = .ok (.getfield 7, 3) := by decide +kernel
theorem dX9_measures_72 : decode cX9_measures 72 = .ok (.bipush 81, 2) := by decide +kernel
theorem dX9_measures_74 : decode cX9_measures 74 = .ok (.iload_n 2, 1) := by decide +kernel
theorem dX9_measures_75 : decode cX9_measures 75 = .ok (.iadd, 1) := by decide +kernel
theorem dX9_measures_76 : decode cX9_measures 76 = .ok (.iaload, 1) := by decide +kernel
theorem dX9_measures_77 : decode cX9_measures 77 = .ok (.if_icmp .ge 60, 3) := by decide +kernel
theorem dX9_measures_80 : decode cX9_measures 80 = .ok (.aload_n 0, 1) := by decide +kernel
theorem dX9_measures_81 : decode cX9_measures 81 = .ok (.iload 4, 2) := by decide +kernel
theorem dX9_measures_83 : decode cX9_measures 83 = .ok (.iload_n 2, 1) := by decide +kernel
theorem dX9_measures_84 : decode cX9_measures 84 = .ok (.iload 5, 2) := by decide +kernel
theorem dX9_measures_86 : decode cX9_measures 86 = .ok (.invokevirtual 93, 3) := by decide +kernel
theorem dX9_measures_89 : decode cX9_measures 89 = .ok (.invokestatic 111, 3) := by decide +kernel
theorem dX9_measures_92 : decode cX9_measures 92 = .ok (.istore 6, 2) := by decide +kernel
theorem dX9_measures_94 : decode cX9_measures 94 = .ok (.aload_n 0, 1) := by decide +kernel
theorem dX9_measures_95 : decode cX9_measures 95 = .ok (.getfield 37, 3) := by decide +kernel
theorem dX9_measures_98 : decode cX9_measures 98 = .ok (.bipush 16, 2) := by decide +kernel
theorem dX9_measures_100 : decode cX9_measures 100 = .ok (.iload_n 2, 1) := by decide +kernel
theorem dX9_measures_101 : decode cX9_measures 101 = .ok (.imul, 1) := by decide +kernel
theorem dX9_measures_102 : decode cX9_measures 102 = .ok (.iconst 4, 1) := by decide +kernel
theorem dX9_measures_103 : decode cX9_measures 103 = .ok (.iload 4, 2) := by decide +kernel
theorem dX9_measures_105 : decode cX9_measures 105 = .ok (.imul, 1) := by decide +kernel
theorem dX9_measures_106 : decode cX9_measures 106 = .ok (.iadd, 1) := by decide +kernel
theorem dX9_measures_107 : decode cX9_measures 107 = .ok (.iload_n 3, 1) := by decide +kernel
theorem dX9_measures_108 : decode cX9_measures 108 = .ok (.ifCond .eq 15, 3) := by decide +kernel
theorem dX9_measures_111 : decode cX9_measures 111 = .ok (.iload 6, 2) := by decide +kernel
theorem dX9_measures_113 : decode cX9_measures 113 = .ok (.ifCond .le 10, 3) := by decide +kernel
theorem dX9_measures_116 : decode cX9_measures 116 = .ok (.iload 6, 2) := by decide +kernel
theorem dX9_measures_118 : decode cX9_measures 118 = .ok (.iconst 1, 1) := by decide +kernel
theorem dX9_measures_119 : decode cX9_measures 119 = .ok (.isub, 1) := by decide +kernel
theorem dX9_measures_120 : decode cX9_measures 120 = .ok (.goto 5, 3) := by decide +kernel
theorem dX9_measures_123 : decode cX9_measures 123 = .ok (.iload 6, 2) := by decide +kernel
theorem dX9_measures_125 : decode cX9_measures 125 = .ok (.iadd, 1) := by decide +kernel
theorem dX9_measures_126 : decode cX9_measures 126 = .ok (.dup2, 1) := by decide +kernel
theorem dX9_measures_127 : decode cX9_measures 127 = .ok (.iaload, 1) := by decide +kernel
theorem dX9_measures_128 : decode cX9_measures 128 = .ok (.iconst 1, 1) := by decide +kernel
theorem dX9_measures_129 : decode cX9_measures 129 = .ok (.iadd, 1) := by decide +kernel
theorem dX9_measures_130 : decode cX9_measures 130 = .ok (.iastore, 1) := by decide +kernel
theorem dX9_measures_131 : decode cX9_measures 131 = .ok (.iinc 5 1, 3) := by decide +kernel
theorem dX9_measures_134 : decode cX9_measures 134 = .ok (.goto (-68), 3) := by decide +kernel
theorem dX9_measures_137 : decode cX9_measures 137 = .ok (.iinc 4 1, 3) := by decide +kernel
theorem dX9_measures_140 : decode cX9_measures 140 = .ok (.goto (-88), 3) := by decide +kernel
theorem dX9_measures_143 : decode cX9_measures 143 = .ok (.iinc 2 1, 3) := by decide +kernel
theorem dX9_measures_146 : decode cX9_measures 146 = .ok (.goto (-122), 3) := by decide +kernel
theorem dX9_measures_149 : decode cX9_measures 149 = .ok (.return_, 1) := by decide +kernel
theorem dX9_isCoat_0 : decode cX9_isCoat 0 = .ok (.iconst 0, 1) := by decide +kernel
theorem dX9_isCoat_1 : decode cX9_isCoat 1 = .ok (.istore_n 3, 1) := by decide +kernel
theorem dX9_isCoat_2 : decode cX9_isCoat 2 = .ok (.iload_n 3, 1) := by decide +kernel
theorem dX9_isCoat_3 : decode cX9_isCoat 3 = .ok (.iconst 4, 1) := by decide +kernel
theorem dX9_isCoat_4 : decode cX9_isCoat 4 = .ok (.if_icmp .ge 92, 3) := by decide +kernel
theorem dX9_isCoat_7 : decode cX9_isCoat 7 = .ok (.aload_n 0, 1) := by decide +kernel
theorem dX9_isCoat_8 : decode cX9_isCoat 8 = .ok (.getfield 40, 3) := by decide +kernel
theorem dX9_isCoat_11 : decode cX9_isCoat 11 = .ok (.iload_n 3, 1) := by decide +kernel
theorem dX9_isCoat_12 : decode cX9_isCoat 12 = .ok (.iconst 0, 1) := by decide +kernel
theorem dX9_isCoat_13 : decode cX9_isCoat 13 = .ok (.iastore, 1) := by decide +kernel
theorem dX9_isCoat_14 : decode cX9_isCoat 14 = .ok (.iconst 0, 1) := by decide +kernel
theorem dX9_isCoat_15 : decode cX9_isCoat 15 = .ok (.istore 4, 2) := by decide +kernel
theorem dX9_isCoat_17 : decode cX9_isCoat 17 = .ok (.iload 4, 2) := by decide +kernel
theorem dX9_isCoat_19 : decode cX9_isCoat 19 = .ok (.iload_n 1, 1) := by decide +kernel
theorem dX9_isCoat_20 : decode cX9_isCoat 20 = .ok (.if_icmp .ge 51, 3) := by decide +kernel
theorem dX9_isCoat_23 : decode cX9_isCoat 23 = .ok (.aload_n 0, 1) := by decide +kernel
theorem dX9_isCoat_24 : decode cX9_isCoat 24 = .ok (.getfield 40, 3) := by decide +kernel
theorem dX9_isCoat_27 : decode cX9_isCoat 27 = .ok (.iload_n 3, 1) := by decide +kernel
theorem dX9_isCoat_28 : decode cX9_isCoat 28 = .ok (.dup2, 1) := by decide +kernel
theorem dX9_isCoat_29 : decode cX9_isCoat 29 = .ok (.iaload, 1) := by decide +kernel
theorem dX9_isCoat_30 : decode cX9_isCoat 30 = .ok (.aload_n 0, 1) := by decide +kernel
theorem dX9_isCoat_31 : decode cX9_isCoat 31 = .ok (.getfield 37, 3) := by decide +kernel
theorem dX9_isCoat_34 : decode cX9_isCoat 34 = .ok (.bipush 16, 2) := by decide +kernel
theorem dX9_isCoat_36 : decode cX9_isCoat 36 = .ok (.aload_n 0, 1) := by decide +kernel
theorem dX9_isCoat_37 : decode cX9_isCoat 37 = .ok (.getfield 28, 3) := by decide +kernel
theorem dX9_isCoat_40 : decode cX9_isCoat 40 = .ok (.iload 4, 2) := by decide +kernel
theorem dX9_isCoat_42 : decode cX9_isCoat 42 = .ok (.iaload, 1) := by decide +kernel
theorem dX9_isCoat_43 : decode cX9_isCoat 43 = .ok (.bipush 10, 2) := by decide +kernel
theorem dX9_isCoat_45 : decode cX9_isCoat 45 = .ok (.idiv, 1) := by decide +kernel
theorem dX9_isCoat_46 : decode cX9_isCoat 46 = .ok (.imul, 1) := by decide +kernel
theorem dX9_isCoat_47 : decode cX9_isCoat 47 = .ok (.iconst 4, 1) := by decide +kernel
theorem dX9_isCoat_48 : decode cX9_isCoat 48 = .ok (.aload_n 0, 1) := by decide +kernel
theorem dX9_isCoat_49 : decode cX9_isCoat 49 = .ok (.getfield 28, 3) := by decide +kernel
theorem dX9_isCoat_52 : decode cX9_isCoat 52 = .ok (.iload 4, 2) := by decide +kernel
theorem dX9_isCoat_54 : decode cX9_isCoat 54 = .ok (.iaload, 1) := by decide +kernel
theorem dX9_isCoat_55 : decode cX9_isCoat 55 = .ok (.bipush 10, 2) := by decide +kernel
theorem dX9_isCoat_57 : decode cX9_isCoat 57 = .ok (.irem, 1) := by decide +kernel
theorem dX9_isCoat_58 : decode cX9_isCoat 58 = .ok (.imul, 1) := by decide +kernel
theorem dX9_isCoat_59 : decode cX9_isCoat 59 = .ok (.iadd, 1) := by decide +kernel
theorem dX9_isCoat_60 : decode cX9_isCoat 60 = .ok (.iload_n 3, 1) := by decide +kernel
theorem dX9_isCoat_61 : decode cX9_isCoat 61 = .ok (.iadd, 1) := by decide +kernel
theorem dX9_isCoat_62 : decode cX9_isCoat 62 = .ok (.iaload, 1) := by decide +kernel
theorem dX9_isCoat_63 : decode cX9_isCoat 63 = .ok (.iadd, 1) := by decide +kernel
theorem dX9_isCoat_64 : decode cX9_isCoat 64 = .ok (.iastore, 1) := by decide +kernel
theorem dX9_isCoat_65 : decode cX9_isCoat 65 = .ok (.iinc 4 1, 3) := by decide +kernel
theorem dX9_isCoat_68 : decode cX9_isCoat 68 = .ok (.goto (-51), 3) := by decide +kernel
theorem dX9_isCoat_71 : decode cX9_isCoat 71 = .ok (.aload_n 0, 1) := by decide +kernel
theorem dX9_isCoat_72 : decode cX9_isCoat 72 = .ok (.getfield 40, 3) := by decide +kernel
theorem dX9_isCoat_75 : decode cX9_isCoat 75 = .ok (.iload_n 3, 1) := by decide +kernel
theorem dX9_isCoat_76 : decode cX9_isCoat 76 = .ok (.iaload, 1) := by decide +kernel
theorem dX9_isCoat_77 : decode cX9_isCoat 77 = .ok (.aload_n 0, 1) := by decide +kernel
theorem dX9_isCoat_78 : decode cX9_isCoat 78 = .ok (.getfield 25, 3) := by decide +kernel
theorem dX9_isCoat_81 : decode cX9_isCoat 81 = .ok (.iload_n 2, 1) := by decide +kernel
theorem dX9_isCoat_82 : decode cX9_isCoat 82 = .ok (.iload_n 3, 1) := by decide +kernel
theorem dX9_isCoat_83 : decode cX9_isCoat 83 = .ok (.iadd, 1) := by decide +kernel
theorem dX9_isCoat_84 : decode cX9_isCoat 84 = .ok (.iaload, 1) := by decide +kernel
theorem dX9_isCoat_85 : decode cX9_isCoat 85 = .ok (.if_icmp .ge 5, 3) := by decide +kernel
theorem dX9_isCoat_88 : decode cX9_isCoat 88 = .ok (.iconst 0, 1) := by decide +kernel
theorem dX9_isCoat_89 : decode cX9_isCoat 89 = .ok (.ireturn, 1) := by decide +kernel
theorem dX9_isCoat_90 : decode cX9_isCoat 90 = .ok (.iinc 3 1, 3) := by decide +kernel
theorem dX9_isCoat_93 : decode cX9_isCoat 93 = .ok (.goto (-91), 3) := by decide +kernel
theorem dX9_isCoat_96 : decode cX9_isCoat 96 = .ok (.iconst 1, 1) := by decide +kernel
theorem dX9_isCoat_97 : decode cX9_isCoat 97 = .ok (.ireturn, 1) := by decide +kernel
theorem dX9_after_0 : decode cX9_after 0 = .ok (.iload_n 1, 1) := by decide +kernel
theorem dX9_after_1 : decode cX9_after 1 = .ok (.ifCond .ge 7, 3) := by decide +kernel
theorem dX9_after_4 : decode cX9_after 4 = .ok (.iconst 0, 1) := by decide +kernel
theorem dX9_after_5 : decode cX9_after 5 = .ok (.goto 9, 3) := by decide +kernel
theorem dX9_after_8 : decode cX9_after 8 = .ok (.iload_n 1, 1) := by decide +kernel
theorem dX9_after_9 : decode cX9_after 9 = .ok (.bipush 10, 2) := by decide +kernel
theorem dX9_after_11 : decode cX9_after 11 = .ok (.irem, 1) := by decide +kernel
theorem dX9_after_12 : decode cX9_after 12 = .ok (.iconst 1, 1) := by decide +kernel
theorem dX9_after_13 : decode cX9_after 13 = .ok (.iadd, 1) := by decide +kernel
theorem dX9_after_14 : decode cX9_after 14 = .ok (.istore_n 2, 1) := by decide +kernel
theorem dX9_after_15 : decode cX9_after 15 = .ok (.iload_n 1, 1) := by decide +kernel
theorem dX9_after_16 : decode cX9_after 16 = .ok (.ifCond .ge 7, 3) := by decide +kernel
theorem dX9_after_19 : decode cX9_after 19 = .ok (.iconst 0, 1) := by decide +kernel
theorem dX9_after_20 : decode cX9_after 20 = .ok (.goto 7, 3) := by decide +kernel
theorem dX9_after_23 : decode cX9_after 23 = .ok (.iload_n 1, 1) := by decide +kernel
theorem dX9_after_24 : decode cX9_after 24 = .ok (.bipush 10, 2) := by decide +kernel
theorem dX9_after_26 : decode cX9_after 26 = .ok (.idiv, 1) := by decide +kernel
theorem dX9_after_27 : decode cX9_after 27 = .ok (.istore_n 3, 1) := by decide +kernel
theorem dX9_after_28 : decode cX9_after 28 = .ok (.iload_n 2, 1) := by decide +kernel
theorem dX9_after_29 : decode cX9_after 29 = .ok (.aload_n 0, 1) := by decide +kernel
theorem dX9_after_30 : decode cX9_after 30 = .ok (.getfield 7, 3) := by decide +kernel
theorem dX9_after_33 : decode cX9_after 33 = .ok (.iconst 1, 1) := by decide +kernel
theorem dX9_after_34 : decode cX9_after 34 = .ok (.iaload, 1) := by decide +kernel
theorem dX9_after_35 : decode cX9_after 35 = .ok (.if_icmp .ge 27, 3) := by decide +kernel
theorem dX9_after_38 : decode cX9_after 38 = .ok (.iload_n 3, 1) := by decide +kernel
theorem dX9_after_39 : decode cX9_after 39 = .ok (.aload_n 0, 1) := by decide +kernel
theorem dX9_after_40 : decode cX9_after 40 = .ok (.getfield 7, 3) := by decide +kernel
theorem dX9_after_43 : decode cX9_after 43 = .ok (.iconst 0, 1) := by decide +kernel
theorem dX9_after_44 : decode cX9_after 44 = .ok (.iaload, 1) := by decide +kernel
theorem dX9_after_45 : decode cX9_after 45 = .ok (.if_icmp .ge 12, 3) := by decide +kernel
theorem dX9_after_48 : decode cX9_after 48 = .ok (.bipush 10, 2) := by decide +kernel
theorem dX9_after_50 : decode cX9_after 50 = .ok (.iload_n 3, 1) := by decide +kernel
theorem dX9_after_51 : decode cX9_after 51 = .ok (.imul, 1) := by decide +kernel
theorem dX9_after_52 : decode cX9_after 52 = .ok (.iload_n 2, 1) := by decide +kernel
theorem dX9_after_53 : decode cX9_after 53 = .ok (.iadd, 1) := by decide +kernel
theorem dX9_after_54 : decode cX9_after 54 = .ok (.goto 40, 3) := by decide +kernel
theorem dX9_after_57 : decode cX9_after 57 = .ok (.bipush (-4), 2) := by decide +kernel
theorem dX9_after_59 : decode cX9_after 59 = .ok (.goto 35, 3) := by decide +kernel
theorem dX9_after_62 : decode cX9_after 62 = .ok (.iload_n 3, 1) := by decide +kernel
theorem dX9_after_63 : decode cX9_after 63 = .ok (.iconst 1, 1) := by decide +kernel
theorem dX9_after_64 : decode cX9_after 64 = .ok (.iadd, 1) := by decide +kernel
theorem dX9_after_65 : decode cX9_after 65 = .ok (.aload_n 0, 1) := by decide +kernel
theorem dX9_after_66 : decode cX9_after 66 = .ok (.getfield 7, 3) := by decide +kernel
theorem dX9_after_69 : decode cX9_after 69 = .ok (.iconst 0, 1) := by decide +kernel
theorem dX9_after_70 : decode cX9_after 70 = .ok (.iaload, 1) := by decide +kernel
theorem dX9_after_71 : decode cX9_after 71 = .ok (.if_icmp .ge 21, 3) := by decide +kernel
theorem dX9_after_74 : decode cX9_after 74 = .ok (.aload_n 0, 1) := by decide +kernel
theorem dX9_after_75 : decode cX9_after 75 = .ok (.getfield 7, 3) := by decide +kernel
theorem dX9_after_78 : decode cX9_after 78 = .ok (.iconst 1, 1) := by decide +kernel
theorem dX9_after_79 : decode cX9_after 79 = .ok (.iaload, 1) := by decide +kernel
theorem dX9_after_80 : decode cX9_after 80 = .ok (.ifCond .le 12, 3) := by decide +kernel
theorem dX9_after_83 : decode cX9_after 83 = .ok (.bipush 10, 2) := by decide +kernel
theorem dX9_after_85 : decode cX9_after 85 = .ok (.iload_n 3, 1) := by decide +kernel
theorem dX9_after_86 : decode cX9_after 86 = .ok (.iconst 1, 1) := by decide +kernel
theorem dX9_after_87 : decode cX9_after 87 = .ok (.iadd, 1) := by decide +kernel
theorem dX9_after_88 : decode cX9_after 88 = .ok (.imul, 1) := by decide +kernel
theorem dX9_after_89 : decode cX9_after 89 = .ok (.goto 5, 3) := by decide +kernel
theorem dX9_after_92 : decode cX9_after 92 = .ok (.bipush (-4), 2) := by decide +kernel
theorem dX9_after_94 : decode cX9_after 94 = .ok (.ireturn, 1) := by decide +kernel
theorem dX9_finds_0 : decode cX9_finds 0 = .ok (.iconst 0, 1) := by decide +kernel
theorem dX9_finds_1 : decode cX9_finds 1 = .ok (.istore_n 3, 1) := by decide +kernel
theorem dX9_finds_2 : decode cX9_finds 2 = .ok (.aload_n 0, 1) := by decide +kernel
theorem dX9_finds_3 : decode cX9_finds 3 = .ok (.getfield 28, 3) := by decide +kernel
theorem dX9_finds_6 : decode cX9_finds 6 = .ok (.iconst 0, 1) := by decide +kernel
theorem dX9_finds_7 : decode cX9_finds 7 = .ok (.iconst (-1), 1) := by decide +kernel
theorem dX9_finds_8 : decode cX9_finds 8 = .ok (.iastore, 1) := by decide +kernel
theorem dX9_finds_9 : decode cX9_finds 9 = .ok (.iload_n 1, 1) := by decide +kernel
theorem dX9_finds_10 : decode cX9_finds 10 = .ok (.ifCond .ne 10, 3) := by decide +kernel
theorem dX9_finds_13 : decode cX9_finds 13 = .ok (.aload_n 0, 1) := by decide +kernel
theorem dX9_finds_14 : decode cX9_finds 14 = .ok (.iconst 0, 1) := by decide +kernel
theorem dX9_finds_15 : decode cX9_finds 15 = .ok (.iload_n 2, 1) := by decide +kernel
theorem dX9_finds_16 : decode cX9_finds 16 = .ok (.invokevirtual 137, 3) := by decide +kernel
theorem dX9_finds_19 : decode cX9_finds 19 = .ok (.ireturn, 1) := by decide +kernel
theorem dX9_finds_20 : decode cX9_finds 20 = .ok (.iload_n 3, 1) := by decide +kernel
theorem dX9_finds_21 : decode cX9_finds 21 = .ok (.ifCond .lt 83, 3) := by decide +kernel
theorem dX9_finds_24 : decode cX9_finds 24 = .ok (.aload_n 0, 1) := by decide +kernel
theorem dX9_finds_25 : decode cX9_finds 25 = .ok (.getfield 28, 3) := by decide +kernel
theorem dX9_finds_28 : decode cX9_finds 28 = .ok (.iload_n 3, 1) := by decide +kernel
theorem dX9_finds_29 : decode cX9_finds 29 = .ok (.aload_n 0, 1) := by decide +kernel
theorem dX9_finds_30 : decode cX9_finds 30 = .ok (.aload_n 0, 1) := by decide +kernel
theorem dX9_finds_31 : decode cX9_finds 31 = .ok (.getfield 28, 3) := by decide +kernel
theorem dX9_finds_34 : decode cX9_finds 34 = .ok (.iload_n 3, 1) := by decide +kernel
theorem dX9_finds_35 : decode cX9_finds 35 = .ok (.iaload, 1) := by decide +kernel
theorem dX9_finds_36 : decode cX9_finds 36 = .ok (.invokevirtual 140, 3) := by decide +kernel
theorem dX9_finds_39 : decode cX9_finds 39 = .ok (.iastore, 1) := by decide +kernel
theorem dX9_finds_40 : decode cX9_finds 40 = .ok (.aload_n 0, 1) := by decide +kernel
theorem dX9_finds_41 : decode cX9_finds 41 = .ok (.getfield 28, 3) := by decide +kernel
theorem dX9_finds_44 : decode cX9_finds 44 = .ok (.iload_n 3, 1) := by decide +kernel
theorem dX9_finds_45 : decode cX9_finds 45 = .ok (.iaload, 1) := by decide +kernel
theorem dX9_finds_46 : decode cX9_finds 46 = .ok (.bipush (-4), 2) := by decide +kernel
theorem dX9_finds_48 : decode cX9_finds 48 = .ok (.if_icmp .ne 9, 3) := by decide +kernel
theorem dX9_finds_51 : decode cX9_finds 51 = .ok (.iinc 3 (-1), 3) := by decide +kernel
theorem dX9_finds_54 : decode cX9_finds 54 = .ok (.goto (-34), 3) := by decide +kernel
theorem dX9_finds_57 : decode cX9_finds 57 = .ok (.iload_n 3, 1) := by decide +kernel
theorem dX9_finds_58 : decode cX9_finds 58 = .ok (.iload_n 1, 1) := by decide +kernel
theorem dX9_finds_59 : decode cX9_finds 59 = .ok (.iconst 1, 1) := by decide +kernel
theorem dX9_finds_60 : decode cX9_finds 60 = .ok (.isub, 1) := by decide +kernel
theorem dX9_finds_61 : decode cX9_finds 61 = .ok (.if_icmp .ne 14, 3) := by decide +kernel
theorem dX9_finds_64 : decode cX9_finds 64 = .ok (.aload_n 0, 1) := by decide +kernel
theorem dX9_finds_65 : decode cX9_finds 65 = .ok (.iload_n 1, 1) := by decide +kernel
theorem dX9_finds_66 : decode cX9_finds 66 = .ok (.iload_n 2, 1) := by decide +kernel
theorem dX9_finds_67 : decode cX9_finds 67 = .ok (.invokevirtual 137, 3) := by decide +kernel
theorem dX9_finds_70 : decode cX9_finds 70 = .ok (.ifCond .eq (-50), 3) := by decide +kernel
theorem dX9_finds_73 : decode cX9_finds 73 = .ok (.iconst 1, 1) := by decide +kernel
theorem dX9_finds_74 : decode cX9_finds 74 = .ok (.ireturn, 1) := by decide +kernel
theorem dX9_finds_75 : decode cX9_finds 75 = .ok (.iinc 3 1, 3) := by decide +kernel
theorem dX9_finds_78 : decode cX9_finds 78 = .ok (.aload_n 0, 1) := by decide +kernel
theorem dX9_finds_79 : decode cX9_finds 79 = .ok (.getfield 28, 3) := by decide +kernel
theorem dX9_finds_82 : decode cX9_finds 82 = .ok (.iload_n 3, 1) := by decide +kernel
theorem dX9_finds_83 : decode cX9_finds 83 = .ok (.bipush 10, 2) := by decide +kernel
theorem dX9_finds_85 : decode cX9_finds 85 = .ok (.aload_n 0, 1) := by decide +kernel
theorem dX9_finds_86 : decode cX9_finds 86 = .ok (.getfield 28, 3) := by decide +kernel
theorem dX9_finds_89 : decode cX9_finds 89 = .ok (.iload_n 3, 1) := by decide +kernel
theorem dX9_finds_90 : decode cX9_finds 90 = .ok (.iconst 1, 1) := by decide +kernel
theorem dX9_finds_91 : decode cX9_finds 91 = .ok (.isub, 1) := by decide +kernel
theorem dX9_finds_92 : decode cX9_finds 92 = .ok (.iaload, 1) := by decide +kernel
theorem dX9_finds_93 : decode cX9_finds 93 = .ok (.bipush 10, 2) := by decide +kernel
theorem dX9_finds_95 : decode cX9_finds 95 = .ok (.idiv, 1) := by decide +kernel
theorem dX9_finds_96 : decode cX9_finds 96 = .ok (.imul, 1) := by decide +kernel
theorem dX9_finds_97 : decode cX9_finds 97 = .ok (.bipush 9, 2) := by decide +kernel
theorem dX9_finds_99 : decode cX9_finds 99 = .ok (.iadd, 1) := by decide +kernel
theorem dX9_finds_100 : decode cX9_finds 100 = .ok (.iastore, 1) := by decide +kernel
theorem dX9_finds_101 : decode cX9_finds 101 = .ok (.goto (-81), 3) := by decide +kernel
theorem dX9_finds_104 : decode cX9_finds 104 = .ok (.iconst 0, 1) := by decide +kernel
theorem dX9_finds_105 : decode cX9_finds 105 = .ok (.ireturn, 1) := by decide +kernel
theorem dX9_coat_0 : decode cX9_coat 0 = .ok (.aload_n 0, 1) := by decide +kernel
theorem dX9_coat_1 : decode cX9_coat 1 = .ok (.iload_n 1, 1) := by decide +kernel
theorem dX9_coat_2 : decode cX9_coat 2 = .ok (.invokevirtual 97, 3) := by decide +kernel
theorem dX9_coat_5 : decode cX9_coat 5 = .ok (.ifCond .eq 26, 3) := by decide +kernel
theorem dX9_coat_8 : decode cX9_coat 8 = .ok (.iload_n 2, 1) := by decide +kernel
theorem dX9_coat_9 : decode cX9_coat 9 = .ok (.iload_n 3, 1) := by decide +kernel
theorem dX9_coat_10 : decode cX9_coat 10 = .ok (.invokestatic 143, 3) := by decide +kernel
theorem dX9_coat_13 : decode cX9_coat 13 = .ok (.ifCond .eq 18, 3) := by decide +kernel
theorem dX9_coat_16 : decode cX9_coat 16 = .ok (.iload 5, 2) := by decide +kernel
theorem dX9_coat_18 : decode cX9_coat 18 = .ok (.i2l, 1) := by decide +kernel
theorem dX9_coat_19 : decode cX9_coat 19 = .ok (.ldc2_w 117, 3) := by decide +kernel
theorem dX9_coat_22 : decode cX9_coat 22 = .ok (.ldc2_w 146, 3) := by decide +kernel
theorem dX9_coat_25 : decode cX9_coat 25 = .ok (.invokestatic 52, 3) := by decide +kernel
theorem dX9_coat_28 : decode cX9_coat 28 = .ok (.ifCond .ne 5, 3) := by decide +kernel
theorem dX9_coat_31 : decode cX9_coat 31 = .ok (.iconst (-1), 1) := by decide +kernel
theorem dX9_coat_32 : decode cX9_coat 32 = .ok (.ireturn, 1) := by decide +kernel
theorem dX9_coat_33 : decode cX9_coat 33 = .ok (.aload_n 0, 1) := by decide +kernel
theorem dX9_coat_34 : decode cX9_coat 34 = .ok (.iload_n 2, 1) := by decide +kernel
theorem dX9_coat_35 : decode cX9_coat 35 = .ok (.iload_n 3, 1) := by decide +kernel
theorem dX9_coat_36 : decode cX9_coat 36 = .ok (.iload 4, 2) := by decide +kernel
theorem dX9_coat_38 : decode cX9_coat 38 = .ok (.iconst 4, 1) := by decide +kernel
theorem dX9_coat_39 : decode cX9_coat 39 = .ok (.bipush 99, 2) := by decide +kernel
theorem dX9_coat_41 : decode cX9_coat 41 = .ok (.invokevirtual 148, 3) := by decide +kernel
theorem dX9_coat_44 : decode cX9_coat 44 = .ok (.istore 6, 2) := by decide +kernel
theorem dX9_coat_46 : decode cX9_coat 46 = .ok (.iload 6, 2) := by decide +kernel
theorem dX9_coat_48 : decode cX9_coat 48 = .ok (.ifCond .ge 6, 3) := by decide +kernel
theorem dX9_coat_51 : decode cX9_coat 51 = .ok (.iload 6, 2) := by decide +kernel
theorem dX9_coat_53 : decode cX9_coat 53 = .ok (.ireturn, 1) := by decide +kernel
theorem dX9_coat_54 : decode cX9_coat 54 = .ok (.aload_n 0, 1) := by decide +kernel
theorem dX9_coat_55 : decode cX9_coat 55 = .ok (.iload_n 1, 1) := by decide +kernel
theorem dX9_coat_56 : decode cX9_coat 56 = .ok (.invokevirtual 151, 3) := by decide +kernel
theorem dX9_coat_59 : decode cX9_coat 59 = .ok (.iconst 0, 1) := by decide +kernel
theorem dX9_coat_60 : decode cX9_coat 60 = .ok (.istore 7, 2) := by decide +kernel
theorem dX9_coat_62 : decode cX9_coat 62 = .ok (.iload 7, 2) := by decide +kernel
theorem dX9_coat_64 : decode cX9_coat 64 = .ok (.aload_n 0, 1) := by decide +kernel
theorem dX9_coat_65 : decode cX9_coat 65 = .ok (.getfield 7, 3) := by decide +kernel
theorem dX9_coat_68 : decode cX9_coat 68 = .ok (.iconst 0, 1) := by decide +kernel
theorem dX9_coat_69 : decode cX9_coat 69 = .ok (.iaload, 1) := by decide +kernel
theorem dX9_coat_70 : decode cX9_coat 70 = .ok (.if_icmp .gt 55, 3) := by decide +kernel
theorem dX9_coat_73 : decode cX9_coat 73 = .ok (.aload_n 0, 1) := by decide +kernel
theorem dX9_coat_74 : decode cX9_coat 74 = .ok (.iload 7, 2) := by decide +kernel
theorem dX9_coat_76 : decode cX9_coat 76 = .ok (.bipush 24, 2) := by decide +kernel
theorem dX9_coat_78 : decode cX9_coat 78 = .ok (.iload_n 2, 1) := by decide +kernel
theorem dX9_coat_79 : decode cX9_coat 79 = .ok (.imul, 1) := by decide +kernel
theorem dX9_coat_80 : decode cX9_coat 80 = .ok (.iload 4, 2) := by decide +kernel
theorem dX9_coat_82 : decode cX9_coat 82 = .ok (.iadd, 1) := by decide +kernel
theorem dX9_coat_83 : decode cX9_coat 83 = .ok (.invokevirtual 155, 3) := by decide +kernel
theorem dX9_coat_86 : decode cX9_coat 86 = .ok (.ifCond .eq 33, 3) := by decide +kernel
theorem dX9_coat_89 : decode cX9_coat 89 = .ok (.iload 5, 2) := by decide +kernel
theorem dX9_coat_91 : decode cX9_coat 91 = .ok (.ifCond .ge 8, 3) := by decide +kernel
theorem dX9_coat_94 : decode cX9_coat 94 = .ok (.iload 7, 2) := by decide +kernel
theorem dX9_coat_96 : decode cX9_coat 96 = .ok (.goto 22, 3) := by decide +kernel
theorem dX9_coat_99 : decode cX9_coat 99 = .ok (.iload 5, 2) := by decide +kernel
theorem dX9_coat_101 : decode cX9_coat 101 = .ok (.iload 7, 2) := by decide +kernel
theorem dX9_coat_103 : decode cX9_coat 103 = .ok (.if_icmp .ge 13, 3) := by decide +kernel
theorem dX9_coat_106 : decode cX9_coat 106 = .ok (.aload_n 0, 1) := by decide +kernel
theorem dX9_coat_107 : decode cX9_coat 107 = .ok (.getfield 28, 3) := by decide +kernel
theorem dX9_coat_110 : decode cX9_coat 110 = .ok (.iload 5, 2) := by decide +kernel
theorem dX9_coat_112 : decode cX9_coat 112 = .ok (.iaload, 1) := by decide +kernel
theorem dX9_coat_113 : decode cX9_coat 113 = .ok (.goto 5, 3) := by decide +kernel
theorem dX9_coat_116 : decode cX9_coat 116 = .ok (.bipush (-4), 2) := by decide +kernel
theorem dX9_coat_118 : decode cX9_coat 118 = .ok (.ireturn, 1) := by decide +kernel
theorem dX9_coat_119 : decode cX9_coat 119 = .ok (.iinc 7 1, 3) := by decide +kernel
theorem dX9_coat_122 : decode cX9_coat 122 = .ok (.goto (-60), 3) := by decide +kernel
theorem dX9_coat_125 : decode cX9_coat 125 = .ok (.bipush (-4), 2) := by decide +kernel
theorem dX9_coat_127 : decode cX9_coat 127 = .ok (.ireturn, 1) := by decide +kernel
theorem dX9_isSo_0 : decode cX9_isSo 0 = .ok (.aload_n 0, 1) := by decide +kernel
theorem dX9_isSo_1 : decode cX9_isSo 1 = .ok (.getfield 7, 3) := by decide +kernel
theorem dX9_isSo_4 : decode cX9_isSo 4 = .ok (.bipush 81, 2) := by decide +kernel
theorem dX9_isSo_6 : decode cX9_isSo 6 = .ok (.iload_n 1, 1) := by decide +kernel
theorem dX9_isSo_7 : decode cX9_isSo 7 = .ok (.iadd, 1) := by decide +kernel
theorem dX9_isSo_8 : decode cX9_isSo 8 = .ok (.iaload, 1) := by decide +kernel
theorem dX9_isSo_9 : decode cX9_isSo 9 = .ok (.iload_n 3, 1) := by decide +kernel
theorem dX9_isSo_10 : decode cX9_isSo 10 = .ok (.if_icmp .gt 7, 3) := by decide +kernel
theorem dX9_isSo_13 : decode cX9_isSo 13 = .ok (.iconst 1, 1) := by decide +kernel
theorem dX9_isSo_14 : decode cX9_isSo 14 = .ok (.goto 4, 3) := by decide +kernel
theorem dX9_isSo_17 : decode cX9_isSo 17 = .ok (.iconst 0, 1) := by decide +kernel
theorem dX9_isSo_18 : decode cX9_isSo 18 = .ok (.istore 4, 2) := by decide +kernel
theorem dX9_isSo_20 : decode cX9_isSo 20 = .ok (.iconst 0, 1) := by decide +kernel
theorem dX9_isSo_21 : decode cX9_isSo 21 = .ok (.istore 5, 2) := by decide +kernel
theorem dX9_isSo_23 : decode cX9_isSo 23 = .ok (.iload 5, 2) := by decide +kernel
theorem dX9_isSo_25 : decode cX9_isSo 25 = .ok (.aload_n 0, 1) := by decide +kernel
theorem dX9_isSo_26 : decode cX9_isSo 26 = .ok (.getfield 7, 3) := by decide +kernel
theorem dX9_isSo_29 : decode cX9_isSo 29 = .ok (.bipush 81, 2) := by decide +kernel
theorem dX9_isSo_31 : decode cX9_isSo 31 = .ok (.iload_n 1, 1) := by decide +kernel
theorem dX9_isSo_32 : decode cX9_isSo 32 = .ok (.iadd, 1) := by decide +kernel
theorem dX9_isSo_33 : decode cX9_isSo 33 = .ok (.iaload, 1) := by decide +kernel
theorem dX9_isSo_34 : decode cX9_isSo 34 = .ok (.if_icmp .ge 51, 3) := by decide +kernel
theorem dX9_isSo_37 : decode cX9_isSo 37 = .ok (.iload 4, 2) := by decide +kernel
theorem dX9_isSo_39 : decode cX9_isSo 39 = .ok (.ifCond .eq 46, 3) := by decide +kernel
theorem dX9_isSo_42 : decode cX9_isSo 42 = .ok (.aload_n 0, 1) := by decide +kernel
theorem dX9_isSo_43 : decode cX9_isSo 43 = .ok (.getfield 7, 3) := by decide +kernel
theorem dX9_isSo_46 : decode cX9_isSo 46 = .ok (.bipush 9, 2) := by decide +kernel
theorem dX9_isSo_48 : decode cX9_isSo 48 = .ok (.bipush 9, 2) := by decide +kernel
theorem dX9_isSo_50 : decode cX9_isSo 50 = .ok (.iload_n 1, 1) := by decide +kernel
theorem dX9_isSo_51 : decode cX9_isSo 51 = .ok (.imul, 1) := by decide +kernel
theorem dX9_isSo_52 : decode cX9_isSo 52 = .ok (.iadd, 1) := by decide +kernel
theorem dX9_isSo_53 : decode cX9_isSo 53 = .ok (.iload 5, 2) := by decide +kernel
theorem dX9_isSo_55 : decode cX9_isSo 55 = .ok (.iadd, 1) := by decide +kernel
theorem dX9_isSo_56 : decode cX9_isSo 56 = .ok (.iaload, 1) := by decide +kernel
theorem dX9_isSo_57 : decode cX9_isSo 57 = .ok (.invokestatic 111, 3) := by decide +kernel
theorem dX9_isSo_60 : decode cX9_isSo 60 = .ok (.aload_n 0, 1) := by decide +kernel
theorem dX9_isSo_61 : decode cX9_isSo 61 = .ok (.getfield 25, 3) := by decide +kernel
theorem dX9_isSo_64 : decode cX9_isSo 64 = .ok (.iload_n 2, 1) := by decide +kernel
theorem dX9_isSo_65 : decode cX9_isSo 65 = .ok (.iload 5, 2) := by decide +kernel
theorem dX9_isSo_67 : decode cX9_isSo 67 = .ok (.iadd, 1) := by decide +kernel
theorem dX9_isSo_68 : decode cX9_isSo 68 = .ok (.iaload, 1) := by decide +kernel
theorem dX9_isSo_69 : decode cX9_isSo 69 = .ok (.if_icmp .ne 7, 3) := by decide +kernel
theorem dX9_isSo_72 : decode cX9_isSo 72 = .ok (.iconst 1, 1) := by decide +kernel
theorem dX9_isSo_73 : decode cX9_isSo 73 = .ok (.goto 4, 3) := by decide +kernel
theorem dX9_isSo_76 : decode cX9_isSo 76 = .ok (.iconst 0, 1) := by decide +kernel
theorem dX9_isSo_77 : decode cX9_isSo 77 = .ok (.istore 4, 2) := by decide +kernel
theorem dX9_isSo_79 : decode cX9_isSo 79 = .ok (.iinc 5 1, 3) := by decide +kernel
theorem dX9_isSo_82 : decode cX9_isSo 82 = .ok (.goto (-59), 3) := by decide +kernel
theorem dX9_isSo_85 : decode cX9_isSo 85 = .ok (.iload 4, 2) := by decide +kernel
theorem dX9_isSo_87 : decode cX9_isSo 87 = .ok (.ireturn, 1) := by decide +kernel
theorem dX9_read_0 : decode cX9_read 0 = .ok (.iload_n 1, 1) := by decide +kernel
theorem dX9_read_1 : decode cX9_read 1 = .ok (.iload_n 2, 1) := by decide +kernel
theorem dX9_read_2 : decode cX9_read 2 = .ok (.invokestatic 143, 3) := by decide +kernel
theorem dX9_read_5 : decode cX9_read 5 = .ok (.ifCond .eq 31, 3) := by decide +kernel
theorem dX9_read_8 : decode cX9_read 8 = .ok (.iload 4, 2) := by decide +kernel
theorem dX9_read_10 : decode cX9_read 10 = .ok (.i2l, 1) := by decide +kernel
theorem dX9_read_11 : decode cX9_read 11 = .ok (.lconst 1, 1) := by decide +kernel
theorem dX9_read_12 : decode cX9_read 12 = .ok (.ldc2_w 158, 3) := by decide +kernel
theorem dX9_read_15 : decode cX9_read 15 = .ok (.invokestatic 52, 3) := by decide +kernel
theorem dX9_read_18 : decode cX9_read 18 = .ok (.ifCond .eq 18, 3) := by decide +kernel
theorem dX9_read_21 : decode cX9_read 21 = .ok (.iload 5, 2) := by decide +kernel
theorem dX9_read_23 : decode cX9_read 23 = .ok (.i2l, 1) := by decide +kernel
theorem dX9_read_24 : decode cX9_read 24 = .ok (.ldc2_w 117, 3) := by decide +kernel
theorem dX9_read_27 : decode cX9_read 27 = .ok (.ldc2_w 146, 3) := by decide +kernel
theorem dX9_read_30 : decode cX9_read 30 = .ok (.invokestatic 52, 3) := by decide +kernel
theorem dX9_read_33 : decode cX9_read 33 = .ok (.ifCond .ne 5, 3) := by decide +kernel
theorem dX9_read_36 : decode cX9_read 36 = .ok (.iconst (-1), 1) := by decide +kernel
theorem dX9_read_37 : decode cX9_read 37 = .ok (.ireturn, 1) := by decide +kernel
theorem dX9_read_38 : decode cX9_read 38 = .ok (.aload_n 0, 1) := by decide +kernel
theorem dX9_read_39 : decode cX9_read 39 = .ok (.iload_n 1, 1) := by decide +kernel
theorem dX9_read_40 : decode cX9_read 40 = .ok (.iload_n 2, 1) := by decide +kernel
theorem dX9_read_41 : decode cX9_read 41 = .ok (.iload_n 3, 1) := by decide +kernel
theorem dX9_read_42 : decode cX9_read 42 = .ok (.iload 4, 2) := by decide +kernel
theorem dX9_read_44 : decode cX9_read 44 = .ok (.iconst 3, 1) := by decide +kernel
theorem dX9_read_45 : decode cX9_read 45 = .ok (.invokevirtual 148, 3) := by decide +kernel
theorem dX9_read_48 : decode cX9_read 48 = .ok (.istore 6, 2) := by decide +kernel
theorem dX9_read_50 : decode cX9_read 50 = .ok (.iload 6, 2) := by decide +kernel
theorem dX9_read_52 : decode cX9_read 52 = .ok (.ifCond .ge 6, 3) := by decide +kernel
theorem dX9_read_55 : decode cX9_read 55 = .ok (.iload 6, 2) := by decide +kernel
theorem dX9_read_57 : decode cX9_read 57 = .ok (.ireturn, 1) := by decide +kernel
theorem dX9_read_58 : decode cX9_read 58 = .ok (.iconst 0, 1) := by decide +kernel
theorem dX9_read_59 : decode cX9_read 59 = .ok (.istore 7, 2) := by decide +kernel
theorem dX9_read_61 : decode cX9_read 61 = .ok (.bipush (-4), 2) := by decide +kernel
theorem dX9_read_63 : decode cX9_read 63 = .ok (.istore 8, 2) := by decide +kernel
theorem dX9_read_65 : decode cX9_read 65 = .ok (.bipush 24, 2) := by decide +kernel
theorem dX9_read_67 : decode cX9_read 67 = .ok (.iload_n 1, 1) := by decide +kernel
theorem dX9_read_68 : decode cX9_read 68 = .ok (.imul, 1) := by decide +kernel
theorem dX9_read_69 : decode cX9_read 69 = .ok (.iload_n 3, 1) := by decide +kernel
theorem dX9_read_70 : decode cX9_read 70 = .ok (.iadd, 1) := by decide +kernel
theorem dX9_read_71 : decode cX9_read 71 = .ok (.istore 9, 2) := by decide +kernel
theorem dX9_read_73 : decode cX9_read 73 = .ok (.iload 4, 2) := by decide +kernel
theorem dX9_read_75 : decode cX9_read 75 = .ok (.istore 10, 2) := by decide +kernel
theorem dX9_read_77 : decode cX9_read 77 = .ok (.iconst 0, 1) := by decide +kernel
theorem dX9_read_78 : decode cX9_read 78 = .ok (.istore 11, 2) := by decide +kernel
theorem dX9_read_80 : decode cX9_read 80 = .ok (.iconst 0, 1) := by decide +kernel
theorem dX9_read_81 : decode cX9_read 81 = .ok (.istore 12, 2) := by decide +kernel
theorem dX9_read_83 : decode cX9_read 83 = .ok (.aload_n 0, 1) := by decide +kernel
theorem dX9_read_84 : decode cX9_read 84 = .ok (.getfield 28, 3) := by decide +kernel
theorem dX9_read_87 : decode cX9_read 87 = .ok (.iconst 0, 1) := by decide +kernel
theorem dX9_read_88 : decode cX9_read 88 = .ok (.iconst (-1), 1) := by decide +kernel
theorem dX9_read_89 : decode cX9_read 89 = .ok (.iastore, 1) := by decide +kernel
theorem dX9_read_90 : decode cX9_read 90 = .ok (.iload 12, 2) := by decide +kernel
theorem dX9_read_92 : decode cX9_read 92 = .ok (.ifCond .lt 240, 3) := by decide +kernel
theorem dX9_read_95 : decode cX9_read 95 = .ok (.aload_n 0, 1) := by decide +kernel
theorem dX9_read_96 : decode cX9_read 96 = .ok (.getfield 28, 3) := by decide +kernel
theorem dX9_read_99 : decode cX9_read 99 = .ok (.iload 12, 2) := by decide +kernel
theorem dX9_read_101 : decode cX9_read 101 = .ok (.dup2, 1) := by decide +kernel
theorem dX9_read_102 : decode cX9_read 102 = .ok (.iaload, 1) := by decide +kernel
theorem dX9_read_103 : decode cX9_read 103 = .ok (.iconst 1, 1) := by decide +kernel
theorem dX9_read_104 : decode cX9_read 104 = .ok (.iadd, 1) := by decide +kernel
theorem dX9_read_105 : decode cX9_read 105 = .ok (.iastore, 1) := by decide +kernel
theorem dX9_read_106 : decode cX9_read 106 = .ok (.aload_n 0, 1) := by decide +kernel
theorem dX9_read_107 : decode cX9_read 107 = .ok (.getfield 28, 3) := by decide +kernel
theorem dX9_read_110 : decode cX9_read 110 = .ok (.iload 12, 2) := by decide +kernel
theorem dX9_read_112 : decode cX9_read 112 = .ok (.iaload, 1) := by decide +kernel
theorem dX9_read_113 : decode cX9_read 113 = .ok (.istore 13, 2) := by decide +kernel
theorem dX9_read_115 : decode cX9_read 115 = .ok (.iload 13, 2) := by decide +kernel
theorem dX9_read_117 : decode cX9_read 117 = .ok (.aload_n 0, 1) := by decide +kernel
theorem dX9_read_118 : decode cX9_read 118 = .ok (.getfield 7, 3) := by decide +kernel
theorem dX9_read_121 : decode cX9_read 121 = .ok (.iconst 0, 1) := by decide +kernel
theorem dX9_read_122 : decode cX9_read 122 = .ok (.iaload, 1) := by decide +kernel
theorem dX9_read_123 : decode cX9_read 123 = .ok (.if_icmp .lt 70, 3) := by decide +kernel
theorem dX9_read_126 : decode cX9_read 126 = .ok (.iinc 12 (-1), 3) := by decide +kernel
theorem dX9_read_129 : decode cX9_read 129 = .ok (.iload 12, 2) := by decide +kernel
theorem dX9_read_131 : decode cX9_read 131 = .ok (.ifCond .lt 198, 3) := by decide +kernel
theorem dX9_read_134 : decode cX9_read 134 = .ok (.iload 11, 2) := by decide +kernel
theorem dX9_read_136 : decode cX9_read 136 = .ok (.iconst 1, 1) := by decide +kernel
theorem dX9_read_137 : decode cX9_read 137 = .ok (.aload_n 0, 1) := by decide +kernel
theorem dX9_read_138 : decode cX9_read 138 = .ok (.getfield 28, 3) := by decide +kernel
theorem dX9_read_141 : decode cX9_read 141 = .ok (.iload 12, 2) := by decide +kernel
theorem dX9_read_143 : decode cX9_read 143 = .ok (.iaload, 1) := by decide +kernel
theorem dX9_read_144 : decode cX9_read 144 = .ok (.ishl, 1) := by decide +kernel
theorem dX9_read_145 : decode cX9_read 145 = .ok (.iconst (-1), 1) := by decide +kernel
theorem dX9_read_146 : decode cX9_read 146 = .ok (.ixor, 1) := by decide +kernel
theorem dX9_read_147 : decode cX9_read 147 = .ok (.iand, 1) := by decide +kernel
theorem dX9_read_148 : decode cX9_read 148 = .ok (.istore 11, 2) := by decide +kernel
theorem dX9_read_150 : decode cX9_read 150 = .ok (.iload 9, 2) := by decide +kernel
theorem dX9_read_152 : decode cX9_read 152 = .ok (.aload_n 0, 1) := by decide +kernel
theorem dX9_read_153 : decode cX9_read 153 = .ok (.getfield 7, 3) := by decide +kernel
theorem dX9_read_156 : decode cX9_read 156 = .ok (.bipush 81, 2) := by decide +kernel
theorem dX9_read_158 : decode cX9_read 158 = .ok (.aload_n 0, 1) := by decide +kernel
theorem dX9_read_159 : decode cX9_read 159 = .ok (.getfield 28, 3) := by decide +kernel
theorem dX9_read_162 : decode cX9_read 162 = .ok (.iload 12, 2) := by decide +kernel
theorem dX9_read_164 : decode cX9_read 164 = .ok (.iaload, 1) := by decide +kernel
theorem dX9_read_165 : decode cX9_read 165 = .ok (.iadd, 1) := by decide +kernel
theorem dX9_read_166 : decode cX9_read 166 = .ok (.iaload, 1) := by decide +kernel
theorem dX9_read_167 : decode cX9_read 167 = .ok (.isub, 1) := by decide +kernel
theorem dX9_read_168 : decode cX9_read 168 = .ok (.istore 9, 2) := by decide +kernel
theorem dX9_read_170 : decode cX9_read 170 = .ok (.iload 10, 2) := by decide +kernel
theorem dX9_read_172 : decode cX9_read 172 = .ok (.aload_n 0, 1) := by decide +kernel
theorem dX9_read_173 : decode cX9_read 173 = .ok (.getfield 7, 3) := by decide +kernel
theorem dX9_read_176 : decode cX9_read 176 = .ok (.bipush 81, 2) := by decide +kernel
theorem dX9_read_178 : decode cX9_read 178 = .ok (.aload_n 0, 1) := by decide +kernel
theorem dX9_read_179 : decode cX9_read 179 = .ok (.getfield 28, 3) := by decide +kernel
theorem dX9_read_182 : decode cX9_read 182 = .ok (.iload 12, 2) := by decide +kernel
theorem dX9_read_184 : decode cX9_read 184 = .ok (.iaload, 1) := by decide +kernel
theorem dX9_read_185 : decode cX9_read 185 = .ok (.iadd, 1) := by decide +kernel
theorem dX9_read_186 : decode cX9_read 186 = .ok (.iaload, 1) := by decide +kernel
theorem dX9_read_187 : decode cX9_read 187 = .ok (.iadd, 1) := by decide +kernel
theorem dX9_read_188 : decode cX9_read 188 = .ok (.istore 10, 2) := by decide +kernel
theorem dX9_read_190 : decode cX9_read 190 = .ok (.goto 139, 3) := by decide +kernel
theorem dX9_read_193 : decode cX9_read 193 = .ok (.iload 11, 2) := by decide +kernel
theorem dX9_read_195 : decode cX9_read 195 = .ok (.iload 13, 2) := by decide +kernel
theorem dX9_read_197 : decode cX9_read 197 = .ok (.ishr, 1) := by decide +kernel
theorem dX9_read_198 : decode cX9_read 198 = .ok (.iconst 1, 1) := by decide +kernel
theorem dX9_read_199 : decode cX9_read 199 = .ok (.iand, 1) := by decide +kernel
theorem dX9_read_200 : decode cX9_read 200 = .ok (.ifCond .ne 129, 3) := by decide +kernel
theorem dX9_read_203 : decode cX9_read 203 = .ok (.aload_n 0, 1) := by decide +kernel
theorem dX9_read_204 : decode cX9_read 204 = .ok (.iload 13, 2) := by decide +kernel
theorem dX9_read_206 : decode cX9_read 206 = .ok (.iload 9, 2) := by decide +kernel
theorem dX9_read_208 : decode cX9_read 208 = .ok (.iload 10, 2) := by decide +kernel
theorem dX9_read_210 : decode cX9_read 210 = .ok (.invokevirtual 160, 3) := by decide +kernel
theorem dX9_read_213 : decode cX9_read 213 = .ok (.ifCond .eq 116, 3) := by decide +kernel
theorem dX9_read_216 : decode cX9_read 216 = .ok (.iload 10, 2) := by decide +kernel
theorem dX9_read_218 : decode cX9_read 218 = .ok (.aload_n 0, 1) := by decide +kernel
theorem dX9_read_219 : decode cX9_read 219 = .ok (.getfield 7, 3) := by decide +kernel
theorem dX9_read_222 : decode cX9_read 222 = .ok (.bipush 81, 2) := by decide +kernel
theorem dX9_read_224 : decode cX9_read 224 = .ok (.iload 13, 2) := by decide +kernel
theorem dX9_read_226 : decode cX9_read 226 = .ok (.iadd, 1) := by decide +kernel
theorem dX9_read_227 : decode cX9_read 227 = .ok (.iaload, 1) := by decide +kernel
theorem dX9_read_228 : decode cX9_read 228 = .ok (.if_icmp .ne 44, 3) := by decide +kernel
theorem dX9_read_231 : decode cX9_read 231 = .ok (.iload 7, 2) := by decide +kernel
theorem dX9_read_233 : decode cX9_read 233 = .ok (.ifCond .ne 33, 3) := by decide +kernel
theorem dX9_read_236 : decode cX9_read 236 = .ok (.iload 5, 2) := by decide +kernel
theorem dX9_read_238 : decode cX9_read 238 = .ok (.iload 12, 2) := by decide +kernel
theorem dX9_read_240 : decode cX9_read 240 = .ok (.if_icmp .le 8, 3) := by decide +kernel
theorem dX9_read_243 : decode cX9_read 243 = .ok (.bipush (-4), 2) := by decide +kernel
theorem dX9_read_245 : decode cX9_read 245 = .ok (.goto 19, 3) := by decide +kernel
theorem dX9_read_248 : decode cX9_read 248 = .ok (.iload 5, 2) := by decide +kernel
theorem dX9_read_250 : decode cX9_read 250 = .ok (.ifCond .ge 7, 3) := by decide +kernel
theorem dX9_read_253 : decode cX9_read 253 = .ok (.iconst 0, 1) := by decide +kernel
theorem dX9_read_254 : decode cX9_read 254 = .ok (.goto 10, 3) := by decide +kernel
theorem dX9_read_257 : decode cX9_read 257 = .ok (.aload_n 0, 1) := by decide +kernel
theorem dX9_read_258 : decode cX9_read 258 = .ok (.getfield 28, 3) := by decide +kernel
theorem dX9_read_261 : decode cX9_read 261 = .ok (.iload 5, 2) := by decide +kernel
theorem dX9_read_263 : decode cX9_read 263 = .ok (.iaload, 1) := by decide +kernel
theorem dX9_read_264 : decode cX9_read 264 = .ok (.istore 8, 2) := by decide +kernel
theorem dX9_read_266 : decode cX9_read 266 = .ok (.iinc 7 1, 3) := by decide +kernel
theorem dX9_read_269 : decode cX9_read 269 = .ok (.goto 60, 3) := by decide +kernel
theorem dX9_read_272 : decode cX9_read 272 = .ok (.iload 12, 2) := by decide +kernel
theorem dX9_read_274 : decode cX9_read 274 = .ok (.bipush 7, 2) := by decide +kernel
theorem dX9_read_276 : decode cX9_read 276 = .ok (.if_icmp .ge 53, 3) := by decide +kernel
theorem dX9_read_279 : decode cX9_read 279 = .ok (.iload 11, 2) := by decide +kernel
theorem dX9_read_281 : decode cX9_read 281 = .ok (.iconst 1, 1) := by decide +kernel
theorem dX9_read_282 : decode cX9_read 282 = .ok (.iload 13, 2) := by decide +kernel
theorem dX9_read_284 : decode cX9_read 284 = .ok (.ishl, 1) := by decide +kernel
theorem dX9_read_285 : decode cX9_read 285 = .ok (.ior, 1) := by decide +kernel
theorem dX9_read_286 : decode cX9_read 286 = .ok (.istore 11, 2) := by decide +kernel
theorem dX9_read_288 : decode cX9_read 288 = .ok (.iload 9, 2) := by decide +kernel
theorem dX9_read_290 : decode cX9_read 290 = .ok (.aload_n 0, 1) := by decide +kernel
theorem dX9_read_291 : decode cX9_read 291 = .ok (.getfield 7, 3) := by decide +kernel
theorem dX9_read_294 : decode cX9_read 294 = .ok (.bipush 81, 2) := by decide +kernel
theorem dX9_read_296 : decode cX9_read 296 = .ok (.iload 13, 2) := by decide +kernel
theorem dX9_read_298 : decode cX9_read 298 = .ok (.iadd, 1) := by decide +kernel
theorem dX9_read_299 : decode cX9_read 299 = .ok (.iaload, 1) := by decide +kernel
theorem dX9_read_300 : decode cX9_read 300 = .ok (.iadd, 1) := by decide +kernel
theorem dX9_read_301 : decode cX9_read 301 = .ok (.istore 9, 2) := by decide +kernel
theorem dX9_read_303 : decode cX9_read 303 = .ok (.iload 10, 2) := by decide +kernel
theorem dX9_read_305 : decode cX9_read 305 = .ok (.aload_n 0, 1) := by decide +kernel
theorem dX9_read_306 : decode cX9_read 306 = .ok (.getfield 7, 3) := by decide +kernel
theorem dX9_read_309 : decode cX9_read 309 = .ok (.bipush 81, 2) := by decide +kernel
theorem dX9_read_311 : decode cX9_read 311 = .ok (.iload 13, 2) := by decide +kernel
theorem dX9_read_313 : decode cX9_read 313 = .ok (.iadd, 1) := by decide +kernel
theorem dX9_read_314 : decode cX9_read 314 = .ok (.iaload, 1) := by decide +kernel
theorem dX9_read_315 : decode cX9_read 315 = .ok (.isub, 1) := by decide +kernel
theorem dX9_read_316 : decode cX9_read 316 = .ok (.istore 10, 2) := by decide +kernel
theorem dX9_read_318 : decode cX9_read 318 = .ok (.iinc 12 1, 3) := by decide +kernel
theorem dX9_read_321 : decode cX9_read 321 = .ok (.aload_n 0, 1) := by decide +kernel
theorem dX9_read_322 : decode cX9_read 322 = .ok (.getfield 28, 3) := by decide +kernel
theorem dX9_read_325 : decode cX9_read 325 = .ok (.iload 12, 2) := by decide +kernel
theorem dX9_read_327 : decode cX9_read 327 = .ok (.iconst (-1), 1) := by decide +kernel
theorem dX9_read_328 : decode cX9_read 328 = .ok (.iastore, 1) := by decide +kernel
theorem dX9_read_329 : decode cX9_read 329 = .ok (.goto (-239), 3) := by decide +kernel
theorem dX9_read_332 : decode cX9_read 332 = .ok (.iload 5, 2) := by decide +kernel
theorem dX9_read_334 : decode cX9_read 334 = .ok (.ifCond .ge 8, 3) := by decide +kernel
theorem dX9_read_337 : decode cX9_read 337 = .ok (.iload 7, 2) := by decide +kernel
theorem dX9_read_339 : decode cX9_read 339 = .ok (.goto 5, 3) := by decide +kernel
theorem dX9_read_342 : decode cX9_read 342 = .ok (.iload 8, 2) := by decide +kernel
theorem dX9_read_344 : decode cX9_read 344 = .ok (.ireturn, 1) := by decide +kernel
theorem dX9_tangles_0 : decode cX9_tangles 0 = .ok (.iconst 0, 1) := by decide +kernel
theorem dX9_tangles_1 : decode cX9_tangles 1 = .ok (.istore_n 3, 1) := by decide +kernel
theorem dX9_tangles_2 : decode cX9_tangles 2 = .ok (.iconst 0, 1) := by decide +kernel
theorem dX9_tangles_3 : decode cX9_tangles 3 = .ok (.istore 4, 2) := by decide +kernel
theorem dX9_tangles_5 : decode cX9_tangles 5 = .ok (.iload 4, 2) := by decide +kernel
theorem dX9_tangles_7 : decode cX9_tangles 7 = .ok (.bipush 9, 2) := by decide +kernel
theorem dX9_tangles_9 : decode cX9_tangles 9 = .ok (.if_icmp .ge 85, 3) := by decide +kernel
theorem dX9_tangles_12 : decode cX9_tangles 12 = .ok (.iload 4, 2) := by decide +kernel
theorem dX9_tangles_14 : decode cX9_tangles 14 = .ok (.aload_n 0, 1) := by decide +kernel
theorem dX9_tangles_15 : decode cX9_tangles 15 = .ok (.getfield 7, 3) := by decide +kernel
theorem dX9_tangles_18 : decode cX9_tangles 18 = .ok (.bipush 81, 2) := by decide +kernel
theorem dX9_tangles_20 : decode cX9_tangles 20 = .ok (.iload_n 1, 1) := by decide +kernel
theorem dX9_tangles_21 : decode cX9_tangles 21 = .ok (.iadd, 1) := by decide +kernel
theorem dX9_tangles_22 : decode cX9_tangles 22 = .ok (.iaload, 1) := by decide +kernel
theorem dX9_tangles_23 : decode cX9_tangles 23 = .ok (.if_icmp .ge 27, 3) := by decide +kernel
theorem dX9_tangles_26 : decode cX9_tangles 26 = .ok (.aload_n 0, 1) := by decide +kernel
theorem dX9_tangles_27 : decode cX9_tangles 27 = .ok (.getfield 43, 3) := by decide +kernel
theorem dX9_tangles_30 : decode cX9_tangles 30 = .ok (.iload_n 3, 1) := by decide +kernel
theorem dX9_tangles_31 : decode cX9_tangles 31 = .ok (.aload_n 0, 1) := by decide +kernel
theorem dX9_tangles_32 : decode cX9_tangles 32 = .ok (.getfield 7, 3) := by decide +kernel
theorem dX9_tangles_35 : decode cX9_tangles 35 = .ok (.bipush 9, 2) := by decide +kernel
theorem dX9_tangles_37 : decode cX9_tangles 37 = .ok (.bipush 9, 2) := by decide +kernel
theorem dX9_tangles_39 : decode cX9_tangles 39 = .ok (.iload_n 1, 1) := by decide +kernel
theorem dX9_tangles_40 : decode cX9_tangles 40 = .ok (.imul, 1) := by decide +kernel
theorem dX9_tangles_41 : decode cX9_tangles 41 = .ok (.iadd, 1) := by decide +kernel
theorem dX9_tangles_42 : decode cX9_tangles 42 = .ok (.iload 4, 2) := by decide +kernel
theorem dX9_tangles_44 : decode cX9_tangles 44 = .ok (.iadd, 1) := by decide +kernel
theorem dX9_tangles_45 : decode cX9_tangles 45 = .ok (.iaload, 1) := by decide +kernel
theorem dX9_tangles_46 : decode cX9_tangles 46 = .ok (.iastore, 1) := by decide +kernel
theorem dX9_tangles_47 : decode cX9_tangles 47 = .ok (.iinc 3 1, 3) := by decide +kernel
theorem dX9_tangles_50 : decode cX9_tangles 50 = .ok (.iload 4, 2) := by decide +kernel
theorem dX9_tangles_52 : decode cX9_tangles 52 = .ok (.aload_n 0, 1) := by decide +kernel
theorem dX9_tangles_53 : decode cX9_tangles 53 = .ok (.getfield 7, 3) := by decide +kernel
theorem dX9_tangles_56 : decode cX9_tangles 56 = .ok (.bipush 81, 2) := by decide +kernel
theorem dX9_tangles_58 : decode cX9_tangles 58 = .ok (.iload_n 2, 1) := by decide +kernel
theorem dX9_tangles_59 : decode cX9_tangles 59 = .ok (.iadd, 1) := by decide +kernel
theorem dX9_tangles_60 : decode cX9_tangles 60 = .ok (.iaload, 1) := by decide +kernel
theorem dX9_tangles_61 : decode cX9_tangles 61 = .ok (.if_icmp .ge 27, 3) := by decide +kernel
theorem dX9_tangles_64 : decode cX9_tangles 64 = .ok (.aload_n 0, 1) := by decide +kernel
theorem dX9_tangles_65 : decode cX9_tangles 65 = .ok (.getfield 43, 3) := by decide +kernel
theorem dX9_tangles_68 : decode cX9_tangles 68 = .ok (.iload_n 3, 1) := by decide +kernel
theorem dX9_tangles_69 : decode cX9_tangles 69 = .ok (.aload_n 0, 1) := by decide +kernel
theorem dX9_tangles_70 : decode cX9_tangles 70 = .ok (.getfield 7, 3) := by decide +kernel
theorem dX9_tangles_73 : decode cX9_tangles 73 = .ok (.bipush 9, 2) := by decide +kernel
theorem dX9_tangles_75 : decode cX9_tangles 75 = .ok (.bipush 9, 2) := by decide +kernel
theorem dX9_tangles_77 : decode cX9_tangles 77 = .ok (.iload_n 2, 1) := by decide +kernel
theorem dX9_tangles_78 : decode cX9_tangles 78 = .ok (.imul, 1) := by decide +kernel
theorem dX9_tangles_79 : decode cX9_tangles 79 = .ok (.iadd, 1) := by decide +kernel
theorem dX9_tangles_80 : decode cX9_tangles 80 = .ok (.iload 4, 2) := by decide +kernel
theorem dX9_tangles_82 : decode cX9_tangles 82 = .ok (.iadd, 1) := by decide +kernel
theorem dX9_tangles_83 : decode cX9_tangles 83 = .ok (.iaload, 1) := by decide +kernel
theorem dX9_tangles_84 : decode cX9_tangles 84 = .ok (.iastore, 1) := by decide +kernel
theorem dX9_tangles_85 : decode cX9_tangles 85 = .ok (.iinc 3 1, 3) := by decide +kernel
theorem dX9_tangles_88 : decode cX9_tangles 88 = .ok (.iinc 4 1, 3) := by decide +kernel
theorem dX9_tangles_91 : decode cX9_tangles 91 = .ok (.goto (-86), 3) := by decide +kernel
theorem dX9_tangles_94 : decode cX9_tangles 94 = .ok (.iload_n 3, 1) := by decide +kernel
theorem dX9_tangles_95 : decode cX9_tangles 95 = .ok (.ireturn, 1) := by decide +kernel
theorem dX9_untangle_0 : decode cX9_untangle 0 = .ok (.iload_n 1, 1) := by decide +kernel
theorem dX9_untangle_1 : decode cX9_untangle 1 = .ok (.iload_n 2, 1) := by decide +kernel
theorem dX9_untangle_2 : decode cX9_untangle 2 = .ok (.invokestatic 143, 3) := by decide +kernel
theorem dX9_untangle_5 : decode cX9_untangle 5 = .ok (.ifCond .eq 27, 3) := by decide +kernel
theorem dX9_untangle_8 : decode cX9_untangle 8 = .ok (.iload 4, 2) := by decide +kernel
theorem dX9_untangle_10 : decode cX9_untangle 10 = .ok (.i2l, 1) := by decide +kernel
theorem dX9_untangle_11 : decode cX9_untangle 11 = .ok (.lconst 1, 1) := by decide +kernel
theorem dX9_untangle_12 : decode cX9_untangle 12 = .ok (.ldc2_w 158, 3) := by decide +kernel
theorem dX9_untangle_15 : decode cX9_untangle 15 = .ok (.invokestatic 52, 3) := by decide +kernel
theorem dX9_untangle_18 : decode cX9_untangle 18 = .ok (.ifCond .eq 14, 3) := by decide +kernel
theorem dX9_untangle_21 : decode cX9_untangle 21 = .ok (.iload 5, 2) := by decide +kernel
theorem dX9_untangle_23 : decode cX9_untangle 23 = .ok (.i2l, 1) := by decide +kernel
theorem dX9_untangle_24 : decode cX9_untangle 24 = .ok (.lconst 0, 1) := by decide +kernel
theorem dX9_untangle_25 : decode cX9_untangle 25 = .ok (.lconst 1, 1) := by decide +kernel
theorem dX9_untangle_26 : decode cX9_untangle 26 = .ok (.invokestatic 52, 3) := by decide +kernel
theorem dX9_untangle_29 : decode cX9_untangle 29 = .ok (.ifCond .ne 5, 3) := by decide +kernel
theorem dX9_untangle_32 : decode cX9_untangle 32 = .ok (.iconst (-1), 1) := by decide +kernel
theorem dX9_untangle_33 : decode cX9_untangle 33 = .ok (.ireturn, 1) := by decide +kernel
theorem dX9_untangle_34 : decode cX9_untangle 34 = .ok (.aload_n 0, 1) := by decide +kernel
theorem dX9_untangle_35 : decode cX9_untangle 35 = .ok (.iload_n 1, 1) := by decide +kernel
theorem dX9_untangle_36 : decode cX9_untangle 36 = .ok (.iload_n 2, 1) := by decide +kernel
theorem dX9_untangle_37 : decode cX9_untangle 37 = .ok (.iload_n 3, 1) := by decide +kernel
theorem dX9_untangle_38 : decode cX9_untangle 38 = .ok (.iload 4, 2) := by decide +kernel
theorem dX9_untangle_40 : decode cX9_untangle 40 = .ok (.bipush 9, 2) := by decide +kernel
theorem dX9_untangle_42 : decode cX9_untangle 42 = .ok (.invokevirtual 148, 3) := by decide +kernel
theorem dX9_untangle_45 : decode cX9_untangle 45 = .ok (.istore 6, 2) := by decide +kernel
theorem dX9_untangle_47 : decode cX9_untangle 47 = .ok (.iload 6, 2) := by decide +kernel
theorem dX9_untangle_49 : decode cX9_untangle 49 = .ok (.ifCond .ge 6, 3) := by decide +kernel
theorem dX9_untangle_52 : decode cX9_untangle 52 = .ok (.iload 6, 2) := by decide +kernel
theorem dX9_untangle_54 : decode cX9_untangle 54 = .ok (.ireturn, 1) := by decide +kernel
theorem dX9_untangle_55 : decode cX9_untangle 55 = .ok (.iconst 0, 1) := by decide +kernel
theorem dX9_untangle_56 : decode cX9_untangle 56 = .ok (.istore 7, 2) := by decide +kernel
theorem dX9_untangle_58 : decode cX9_untangle 58 = .ok (.bipush (-4), 2) := by decide +kernel
theorem dX9_untangle_60 : decode cX9_untangle 60 = .ok (.istore 8, 2) := by decide +kernel
theorem dX9_untangle_62 : decode cX9_untangle 62 = .ok (.iconst 0, 1) := by decide +kernel
theorem dX9_untangle_63 : decode cX9_untangle 63 = .ok (.istore 9, 2) := by decide +kernel
theorem dX9_untangle_65 : decode cX9_untangle 65 = .ok (.iload 9, 2) := by decide +kernel
theorem dX9_untangle_67 : decode cX9_untangle 67 = .ok (.bipush 64, 2) := by decide +kernel
theorem dX9_untangle_69 : decode cX9_untangle 69 = .ok (.if_icmp .ge 165, 3) := by decide +kernel
theorem dX9_untangle_72 : decode cX9_untangle 72 = .ok (.iload 9, 2) := by decide +kernel
theorem dX9_untangle_74 : decode cX9_untangle 74 = .ok (.bipush 8, 2) := by decide +kernel
theorem dX9_untangle_76 : decode cX9_untangle 76 = .ok (.idiv, 1) := by decide +kernel
theorem dX9_untangle_77 : decode cX9_untangle 77 = .ok (.istore 10, 2) := by decide +kernel
theorem dX9_untangle_79 : decode cX9_untangle 79 = .ok (.iload 9, 2) := by decide +kernel
theorem dX9_untangle_81 : decode cX9_untangle 81 = .ok (.bipush 8, 2) := by decide +kernel
theorem dX9_untangle_83 : decode cX9_untangle 83 = .ok (.irem, 1) := by decide +kernel
theorem dX9_untangle_84 : decode cX9_untangle 84 = .ok (.istore 11, 2) := by decide +kernel
theorem dX9_untangle_86 : decode cX9_untangle 86 = .ok (.iload 10, 2) := by decide +kernel
theorem dX9_untangle_88 : decode cX9_untangle 88 = .ok (.iload 11, 2) := by decide +kernel
theorem dX9_untangle_90 : decode cX9_untangle 90 = .ok (.if_icmp .eq 138, 3) := by decide +kernel
theorem dX9_untangle_93 : decode cX9_untangle 93 = .ok (.aload_n 0, 1) := by decide +kernel
theorem dX9_untangle_94 : decode cX9_untangle 94 = .ok (.iload 10, 2) := by decide +kernel
theorem dX9_untangle_96 : decode cX9_untangle 96 = .ok (.invokevirtual 72, 3) := by decide +kernel
theorem dX9_untangle_99 : decode cX9_untangle 99 = .ok (.ifCond .eq 129, 3) := by decide +kernel
theorem dX9_untangle_102 : decode cX9_untangle 102 = .ok (.aload_n 0, 1) := by decide +kernel
theorem dX9_untangle_103 : decode cX9_untangle 103 = .ok (.iload 11, 2) := by decide +kernel
theorem dX9_untangle_105 : decode cX9_untangle 105 = .ok (.invokevirtual 72, 3) := by decide +kernel
theorem dX9_untangle_108 : decode cX9_untangle 108 = .ok (.ifCond .ne 6, 3) := by decide +kernel
theorem dX9_untangle_111 : decode cX9_untangle 111 = .ok (.goto 117, 3) := by decide +kernel
theorem dX9_untangle_114 : decode cX9_untangle 114 = .ok (.aload_n 0, 1) := by decide +kernel
theorem dX9_untangle_115 : decode cX9_untangle 115 = .ok (.iload 10, 2) := by decide +kernel
theorem dX9_untangle_117 : decode cX9_untangle 117 = .ok (.iload 11, 2) := by decide +kernel
theorem dX9_untangle_119 : decode cX9_untangle 119 = .ok (.invokevirtual 163, 3) := by decide +kernel
theorem dX9_untangle_122 : decode cX9_untangle 122 = .ok (.iload 4, 2) := by decide +kernel
theorem dX9_untangle_124 : decode cX9_untangle 124 = .ok (.if_icmp .ne 7, 3) := by decide +kernel
theorem dX9_untangle_127 : decode cX9_untangle 127 = .ok (.iconst 1, 1) := by decide +kernel
theorem dX9_untangle_128 : decode cX9_untangle 128 = .ok (.goto 4, 3) := by decide +kernel
theorem dX9_untangle_131 : decode cX9_untangle 131 = .ok (.iconst 0, 1) := by decide +kernel
theorem dX9_untangle_132 : decode cX9_untangle 132 = .ok (.istore 12, 2) := by decide +kernel
theorem dX9_untangle_134 : decode cX9_untangle 134 = .ok (.iconst 0, 1) := by decide +kernel
theorem dX9_untangle_135 : decode cX9_untangle 135 = .ok (.istore 13, 2) := by decide +kernel
theorem dX9_untangle_137 : decode cX9_untangle 137 = .ok (.iload 13, 2) := by decide +kernel
theorem dX9_untangle_139 : decode cX9_untangle 139 = .ok (.iload 4, 2) := by decide +kernel
theorem dX9_untangle_141 : decode cX9_untangle 141 = .ok (.if_icmp .ge 45, 3) := by decide +kernel
theorem dX9_untangle_144 : decode cX9_untangle 144 = .ok (.iload 12, 2) := by decide +kernel
theorem dX9_untangle_146 : decode cX9_untangle 146 = .ok (.ifCond .eq 40, 3) := by decide +kernel
theorem dX9_untangle_149 : decode cX9_untangle 149 = .ok (.aload_n 0, 1) := by decide +kernel
theorem dX9_untangle_150 : decode cX9_untangle 150 = .ok (.getfield 43, 3) := by decide +kernel
theorem dX9_untangle_153 : decode cX9_untangle 153 = .ok (.iload 13, 2) := by decide +kernel
theorem dX9_untangle_155 : decode cX9_untangle 155 = .ok (.iaload, 1) := by decide +kernel
theorem dX9_untangle_156 : decode cX9_untangle 156 = .ok (.aload_n 0, 1) := by decide +kernel
theorem dX9_untangle_157 : decode cX9_untangle 157 = .ok (.getfield 25, 3) := by decide +kernel
theorem dX9_untangle_160 : decode cX9_untangle 160 = .ok (.bipush 24, 2) := by decide +kernel
theorem dX9_untangle_162 : decode cX9_untangle 162 = .ok (.iload_n 1, 1) := by decide +kernel
theorem dX9_untangle_163 : decode cX9_untangle 163 = .ok (.imul, 1) := by decide +kernel
theorem dX9_untangle_164 : decode cX9_untangle 164 = .ok (.iload_n 3, 1) := by decide +kernel
theorem dX9_untangle_165 : decode cX9_untangle 165 = .ok (.iadd, 1) := by decide +kernel
theorem dX9_untangle_166 : decode cX9_untangle 166 = .ok (.iload 13, 2) := by decide +kernel
theorem dX9_untangle_168 : decode cX9_untangle 168 = .ok (.iadd, 1) := by decide +kernel
theorem dX9_untangle_169 : decode cX9_untangle 169 = .ok (.iaload, 1) := by decide +kernel
theorem dX9_untangle_170 : decode cX9_untangle 170 = .ok (.if_icmp .ne 7, 3) := by decide +kernel
theorem dX9_untangle_173 : decode cX9_untangle 173 = .ok (.iconst 1, 1) := by decide +kernel
theorem dX9_untangle_174 : decode cX9_untangle 174 = .ok (.goto 4, 3) := by decide +kernel
theorem dX9_untangle_177 : decode cX9_untangle 177 = .ok (.iconst 0, 1) := by decide +kernel
theorem dX9_untangle_178 : decode cX9_untangle 178 = .ok (.istore 12, 2) := by decide +kernel
theorem dX9_untangle_180 : decode cX9_untangle 180 = .ok (.iinc 13 1, 3) := by decide +kernel
theorem dX9_untangle_183 : decode cX9_untangle 183 = .ok (.goto (-46), 3) := by decide +kernel
theorem dX9_untangle_186 : decode cX9_untangle 186 = .ok (.iload 7, 2) := by decide +kernel
theorem dX9_untangle_188 : decode cX9_untangle 188 = .ok (.iload 12, 2) := by decide +kernel
theorem dX9_untangle_190 : decode cX9_untangle 190 = .ok (.ifCond .eq 7, 3) := by decide +kernel
theorem dX9_untangle_193 : decode cX9_untangle 193 = .ok (.iconst 1, 1) := by decide +kernel
theorem dX9_untangle_194 : decode cX9_untangle 194 = .ok (.goto 4, 3) := by decide +kernel
theorem dX9_untangle_197 : decode cX9_untangle 197 = .ok (.iconst 0, 1) := by decide +kernel
theorem dX9_untangle_198 : decode cX9_untangle 198 = .ok (.iadd, 1) := by decide +kernel
theorem dX9_untangle_199 : decode cX9_untangle 199 = .ok (.istore 7, 2) := by decide +kernel
theorem dX9_untangle_201 : decode cX9_untangle 201 = .ok (.iload 12, 2) := by decide +kernel
theorem dX9_untangle_203 : decode cX9_untangle 203 = .ok (.ifCond .eq 21, 3) := by decide +kernel
theorem dX9_untangle_206 : decode cX9_untangle 206 = .ok (.iload 8, 2) := by decide +kernel
theorem dX9_untangle_208 : decode cX9_untangle 208 = .ok (.bipush (-4), 2) := by decide +kernel
theorem dX9_untangle_210 : decode cX9_untangle 210 = .ok (.if_icmp .ne 14, 3) := by decide +kernel
theorem dX9_untangle_213 : decode cX9_untangle 213 = .ok (.bipush 10, 2) := by decide +kernel
theorem dX9_untangle_215 : decode cX9_untangle 215 = .ok (.iload 10, 2) := by decide +kernel
theorem dX9_untangle_217 : decode cX9_untangle 217 = .ok (.imul, 1) := by decide +kernel
theorem dX9_untangle_218 : decode cX9_untangle 218 = .ok (.iload 11, 2) := by decide +kernel
theorem dX9_untangle_220 : decode cX9_untangle 220 = .ok (.iadd, 1) := by decide +kernel
theorem dX9_untangle_221 : decode cX9_untangle 221 = .ok (.goto 5, 3) := by decide +kernel
theorem dX9_untangle_224 : decode cX9_untangle 224 = .ok (.iload 8, 2) := by decide +kernel
theorem dX9_untangle_226 : decode cX9_untangle 226 = .ok (.istore 8, 2) := by decide +kernel
theorem dX9_untangle_228 : decode cX9_untangle 228 = .ok (.iinc 9 1, 3) := by decide +kernel
theorem dX9_untangle_231 : decode cX9_untangle 231 = .ok (.goto (-166), 3) := by decide +kernel
theorem dX9_untangle_234 : decode cX9_untangle 234 = .ok (.iload 5, 2) := by decide +kernel
theorem dX9_untangle_236 : decode cX9_untangle 236 = .ok (.ifCond .ne 8, 3) := by decide +kernel
theorem dX9_untangle_239 : decode cX9_untangle 239 = .ok (.iload 7, 2) := by decide +kernel
theorem dX9_untangle_241 : decode cX9_untangle 241 = .ok (.goto 5, 3) := by decide +kernel
theorem dX9_untangle_244 : decode cX9_untangle 244 = .ok (.iload 8, 2) := by decide +kernel
theorem dX9_untangle_246 : decode cX9_untangle 246 = .ok (.ireturn, 1) := by decide +kernel
theorem dX9_tangle_0 : decode cX9_tangle 0 = .ok (.aload_n 0, 1) := by decide +kernel
theorem dX9_tangle_1 : decode cX9_tangle 1 = .ok (.iload_n 1, 1) := by decide +kernel
theorem dX9_tangle_2 : decode cX9_tangle 2 = .ok (.invokevirtual 72, 3) := by decide +kernel
theorem dX9_tangle_5 : decode cX9_tangle 5 = .ok (.ifCond .eq 25, 3) := by decide +kernel
theorem dX9_tangle_8 : decode cX9_tangle 8 = .ok (.aload_n 0, 1) := by decide +kernel
theorem dX9_tangle_9 : decode cX9_tangle 9 = .ok (.iload_n 2, 1) := by decide +kernel
theorem dX9_tangle_10 : decode cX9_tangle 10 = .ok (.invokevirtual 72, 3) := by decide +kernel
theorem dX9_tangle_13 : decode cX9_tangle 13 = .ok (.ifCond .eq 17, 3) := by decide +kernel
theorem dX9_tangle_16 : decode cX9_tangle 16 = .ok (.iload_n 1, 1) := by decide +kernel
theorem dX9_tangle_17 : decode cX9_tangle 17 = .ok (.iload_n 2, 1) := by decide +kernel
theorem dX9_tangle_18 : decode cX9_tangle 18 = .ok (.if_icmp .eq 12, 3) := by decide +kernel
theorem dX9_tangle_21 : decode cX9_tangle 21 = .ok (.iload_n 3, 1) := by decide +kernel
theorem dX9_tangle_22 : decode cX9_tangle 22 = .ok (.iload 4, 2) := by decide +kernel
theorem dX9_tangle_24 : decode cX9_tangle 24 = .ok (.invokestatic 143, 3) := by decide +kernel
theorem dX9_tangle_27 : decode cX9_tangle 27 = .ok (.ifCond .ne 5, 3) := by decide +kernel
theorem dX9_tangle_30 : decode cX9_tangle 30 = .ok (.iconst (-1), 1) := by decide +kernel
theorem dX9_tangle_31 : decode cX9_tangle 31 = .ok (.ireturn, 1) := by decide +kernel
theorem dX9_tangle_32 : decode cX9_tangle 32 = .ok (.aload_n 0, 1) := by decide +kernel
theorem dX9_tangle_33 : decode cX9_tangle 33 = .ok (.iload_n 1, 1) := by decide +kernel
theorem dX9_tangle_34 : decode cX9_tangle 34 = .ok (.iload_n 2, 1) := by decide +kernel
theorem dX9_tangle_35 : decode cX9_tangle 35 = .ok (.invokevirtual 163, 3) := by decide +kernel
theorem dX9_tangle_38 : decode cX9_tangle 38 = .ok (.istore 6, 2) := by decide +kernel
theorem dX9_tangle_40 : decode cX9_tangle 40 = .ok (.aload_n 0, 1) := by decide +kernel
theorem dX9_tangle_41 : decode cX9_tangle 41 = .ok (.iload_n 3, 1) := by decide +kernel
theorem dX9_tangle_42 : decode cX9_tangle 42 = .ok (.iload 4, 2) := by decide +kernel
theorem dX9_tangle_44 : decode cX9_tangle 44 = .ok (.iload 5, 2) := by decide +kernel
theorem dX9_tangle_46 : decode cX9_tangle 46 = .ok (.iload 6, 2) := by decide +kernel
theorem dX9_tangle_48 : decode cX9_tangle 48 = .ok (.invokevirtual 133, 3) := by decide +kernel
theorem dX9_tangle_51 : decode cX9_tangle 51 = .ok (.istore 7, 2) := by decide +kernel
theorem dX9_tangle_53 : decode cX9_tangle 53 = .ok (.iload 7, 2) := by decide +kernel
theorem dX9_tangle_55 : decode cX9_tangle 55 = .ok (.ifCond .ge 6, 3) := by decide +kernel
theorem dX9_tangle_58 : decode cX9_tangle 58 = .ok (.iload 7, 2) := by decide +kernel
theorem dX9_tangle_60 : decode cX9_tangle 60 = .ok (.ireturn, 1) := by decide +kernel
theorem dX9_tangle_61 : decode cX9_tangle 61 = .ok (.iconst 0, 1) := by decide +kernel
theorem dX9_tangle_62 : decode cX9_tangle 62 = .ok (.istore 8, 2) := by decide +kernel
theorem dX9_tangle_64 : decode cX9_tangle 64 = .ok (.iload 8, 2) := by decide +kernel
theorem dX9_tangle_66 : decode cX9_tangle 66 = .ok (.iload 6, 2) := by decide +kernel
theorem dX9_tangle_68 : decode cX9_tangle 68 = .ok (.if_icmp .ge 31, 3) := by decide +kernel
theorem dX9_tangle_71 : decode cX9_tangle 71 = .ok (.aload_n 0, 1) := by decide +kernel
theorem dX9_tangle_72 : decode cX9_tangle 72 = .ok (.getfield 25, 3) := by decide +kernel
theorem dX9_tangle_75 : decode cX9_tangle 75 = .ok (.bipush 24, 2) := by decide +kernel
theorem dX9_tangle_77 : decode cX9_tangle 77 = .ok (.iload_n 3, 1) := by decide +kernel
theorem dX9_tangle_78 : decode cX9_tangle 78 = .ok (.imul, 1) := by decide +kernel
theorem dX9_tangle_79 : decode cX9_tangle 79 = .ok (.iload 5, 2) := by decide +kernel
theorem dX9_tangle_81 : decode cX9_tangle 81 = .ok (.iadd, 1) := by decide +kernel
theorem dX9_tangle_82 : decode cX9_tangle 82 = .ok (.iload 8, 2) := by decide +kernel
theorem dX9_tangle_84 : decode cX9_tangle 84 = .ok (.iadd, 1) := by decide +kernel
theorem dX9_tangle_85 : decode cX9_tangle 85 = .ok (.aload_n 0, 1) := by decide +kernel
theorem dX9_tangle_86 : decode cX9_tangle 86 = .ok (.getfield 43, 3) := by decide +kernel
theorem dX9_tangle_89 : decode cX9_tangle 89 = .ok (.iload 8, 2) := by decide +kernel
theorem dX9_tangle_91 : decode cX9_tangle 91 = .ok (.iaload, 1) := by decide +kernel
theorem dX9_tangle_92 : decode cX9_tangle 92 = .ok (.iastore, 1) := by decide +kernel
theorem dX9_tangle_93 : decode cX9_tangle 93 = .ok (.iinc 8 1, 3) := by decide +kernel
theorem dX9_tangle_96 : decode cX9_tangle 96 = .ok (.goto (-32), 3) := by decide +kernel
theorem dX9_tangle_99 : decode cX9_tangle 99 = .ok (.iload 6, 2) := by decide +kernel
theorem dX9_tangle_101 : decode cX9_tangle 101 = .ok (.ireturn, 1) := by decide +kernel
theorem dX9_becomes_0 : decode cX9_becomes 0 = .ok (.iconst 0, 1) := by decide +kernel
theorem dX9_becomes_1 : decode cX9_becomes 1 = .ok (.istore 6, 2) := by decide +kernel
theorem dX9_becomes_3 : decode cX9_becomes 3 = .ok (.iload 6, 2) := by decide +kernel
theorem dX9_becomes_5 : decode cX9_becomes 5 = .ok (.iload 5, 2) := by decide +kernel
theorem dX9_becomes_7 : decode cX9_becomes 7 = .ok (.if_icmp .ge 31, 3) := by decide +kernel
theorem dX9_becomes_10 : decode cX9_becomes 10 = .ok (.aload_n 0, 1) := by decide +kernel
theorem dX9_becomes_11 : decode cX9_becomes 11 = .ok (.getfield 46, 3) := by decide +kernel
theorem dX9_becomes_14 : decode cX9_becomes 14 = .ok (.iload 6, 2) := by decide +kernel
theorem dX9_becomes_16 : decode cX9_becomes 16 = .ok (.aload_n 0, 1) := by decide +kernel
theorem dX9_becomes_17 : decode cX9_becomes 17 = .ok (.getfield 7, 3) := by decide +kernel
theorem dX9_becomes_20 : decode cX9_becomes 20 = .ok (.bipush 9, 2) := by decide +kernel
theorem dX9_becomes_22 : decode cX9_becomes 22 = .ok (.bipush 9, 2) := by decide +kernel
theorem dX9_becomes_24 : decode cX9_becomes 24 = .ok (.iload_n 1, 1) := by decide +kernel
theorem dX9_becomes_25 : decode cX9_becomes 25 = .ok (.imul, 1) := by decide +kernel
theorem dX9_becomes_26 : decode cX9_becomes 26 = .ok (.iadd, 1) := by decide +kernel
theorem dX9_becomes_27 : decode cX9_becomes 27 = .ok (.iload 6, 2) := by decide +kernel
theorem dX9_becomes_29 : decode cX9_becomes 29 = .ok (.iadd, 1) := by decide +kernel
theorem dX9_becomes_30 : decode cX9_becomes 30 = .ok (.iaload, 1) := by decide +kernel
theorem dX9_becomes_31 : decode cX9_becomes 31 = .ok (.iastore, 1) := by decide +kernel
theorem dX9_becomes_32 : decode cX9_becomes 32 = .ok (.iinc 6 1, 3) := by decide +kernel
theorem dX9_becomes_35 : decode cX9_becomes 35 = .ok (.goto (-32), 3) := by decide +kernel
theorem dX9_becomes_38 : decode cX9_becomes 38 = .ok (.iconst 1, 1) := by decide +kernel
theorem dX9_becomes_39 : decode cX9_becomes 39 = .ok (.istore 6, 2) := by decide +kernel
theorem dX9_becomes_41 : decode cX9_becomes 41 = .ok (.iconst 1, 1) := by decide +kernel
theorem dX9_becomes_42 : decode cX9_becomes 42 = .ok (.istore 7, 2) := by decide +kernel
theorem dX9_becomes_44 : decode cX9_becomes 44 = .ok (.iload 7, 2) := by decide +kernel
theorem dX9_becomes_46 : decode cX9_becomes 46 = .ok (.iload_n 3, 1) := by decide +kernel
theorem dX9_becomes_47 : decode cX9_becomes 47 = .ok (.if_icmp .ge 20, 3) := by decide +kernel
theorem dX9_becomes_50 : decode cX9_becomes 50 = .ok (.iload 6, 2) := by decide +kernel
theorem dX9_becomes_52 : decode cX9_becomes 52 = .ok (.aload_n 0, 1) := by decide +kernel
theorem dX9_becomes_53 : decode cX9_becomes 53 = .ok (.getfield 7, 3) := by decide +kernel
theorem dX9_becomes_56 : decode cX9_becomes 56 = .ok (.iconst 1, 1) := by decide +kernel
theorem dX9_becomes_57 : decode cX9_becomes 57 = .ok (.iaload, 1) := by decide +kernel
theorem dX9_becomes_58 : decode cX9_becomes 58 = .ok (.imul, 1) := by decide +kernel
theorem dX9_becomes_59 : decode cX9_becomes 59 = .ok (.istore 6, 2) := by decide +kernel
theorem dX9_becomes_61 : decode cX9_becomes 61 = .ok (.iinc 7 1, 3) := by decide +kernel
theorem dX9_becomes_64 : decode cX9_becomes 64 = .ok (.goto (-20), 3) := by decide +kernel
theorem dX9_becomes_67 : decode cX9_becomes 67 = .ok (.iconst 0, 1) := by decide +kernel
theorem dX9_becomes_68 : decode cX9_becomes 68 = .ok (.istore 7, 2) := by decide +kernel
theorem dX9_becomes_70 : decode cX9_becomes 70 = .ok (.iload 7, 2) := by decide +kernel
theorem dX9_becomes_72 : decode cX9_becomes 72 = .ok (.iload_n 3, 1) := by decide +kernel
theorem dX9_becomes_73 : decode cX9_becomes 73 = .ok (.if_icmp .ge 122, 3) := by decide +kernel
theorem dX9_becomes_76 : decode cX9_becomes 76 = .ok (.aload_n 0, 1) := by decide +kernel
theorem dX9_becomes_77 : decode cX9_becomes 77 = .ok (.getfield 7, 3) := by decide +kernel
theorem dX9_becomes_80 : decode cX9_becomes 80 = .ok (.bipush 89, 2) := by decide +kernel
theorem dX9_becomes_82 : decode cX9_becomes 82 = .ok (.iload_n 2, 1) := by decide +kernel
theorem dX9_becomes_83 : decode cX9_becomes 83 = .ok (.iload 6, 2) := by decide +kernel
theorem dX9_becomes_85 : decode cX9_becomes 85 = .ok (.idiv, 1) := by decide +kernel
theorem dX9_becomes_86 : decode cX9_becomes 86 = .ok (.aload_n 0, 1) := by decide +kernel
theorem dX9_becomes_87 : decode cX9_becomes 87 = .ok (.getfield 7, 3) := by decide +kernel
theorem dX9_becomes_90 : decode cX9_becomes 90 = .ok (.iconst 1, 1) := by decide +kernel
theorem dX9_becomes_91 : decode cX9_becomes 91 = .ok (.iaload, 1) := by decide +kernel
theorem dX9_becomes_92 : decode cX9_becomes 92 = .ok (.irem, 1) := by decide +kernel
theorem dX9_becomes_93 : decode cX9_becomes 93 = .ok (.iadd, 1) := by decide +kernel
theorem dX9_becomes_94 : decode cX9_becomes 94 = .ok (.iaload, 1) := by decide +kernel
theorem dX9_becomes_95 : decode cX9_becomes 95 = .ok (.istore 8, 2) := by decide +kernel
theorem dX9_becomes_97 : decode cX9_becomes 97 = .ok (.iload 6, 2) := by decide +kernel
theorem dX9_becomes_99 : decode cX9_becomes 99 = .ok (.aload_n 0, 1) := by decide +kernel
theorem dX9_becomes_100 : decode cX9_becomes 100 = .ok (.getfield 7, 3) := by decide +kernel
theorem dX9_becomes_103 : decode cX9_becomes 103 = .ok (.iconst 1, 1) := by decide +kernel
theorem dX9_becomes_104 : decode cX9_becomes 104 = .ok (.iaload, 1) := by decide +kernel
theorem dX9_becomes_105 : decode cX9_becomes 105 = .ok (.idiv, 1) := by decide +kernel
theorem dX9_becomes_106 : decode cX9_becomes 106 = .ok (.istore 6, 2) := by decide +kernel
theorem dX9_becomes_108 : decode cX9_becomes 108 = .ok (.iconst 0, 1) := by decide +kernel
theorem dX9_becomes_109 : decode cX9_becomes 109 = .ok (.istore 9, 2) := by decide +kernel
theorem dX9_becomes_111 : decode cX9_becomes 111 = .ok (.iload 9, 2) := by decide +kernel
theorem dX9_becomes_113 : decode cX9_becomes 113 = .ok (.iload 5, 2) := by decide +kernel
theorem dX9_becomes_115 : decode cX9_becomes 115 = .ok (.if_icmp .ge 44, 3) := by decide +kernel
theorem dX9_becomes_118 : decode cX9_becomes 118 = .ok (.aload_n 0, 1) := by decide +kernel
theorem dX9_becomes_119 : decode cX9_becomes 119 = .ok (.getfield 49, 3) := by decide +kernel
theorem dX9_becomes_122 : decode cX9_becomes 122 = .ok (.iload 9, 2) := by decide +kernel
theorem dX9_becomes_124 : decode cX9_becomes 124 = .ok (.iload 8, 2) := by decide +kernel
theorem dX9_becomes_126 : decode cX9_becomes 126 = .ok (.aload_n 0, 1) := by decide +kernel
theorem dX9_becomes_127 : decode cX9_becomes 127 = .ok (.getfield 46, 3) := by decide +kernel
theorem dX9_becomes_130 : decode cX9_becomes 130 = .ok (.iload 8, 2) := by decide +kernel
theorem dX9_becomes_132 : decode cX9_becomes 132 = .ok (.iconst 3, 1) := by decide +kernel
theorem dX9_becomes_133 : decode cX9_becomes 133 = .ok (.if_icmp .ne 13, 3) := by decide +kernel
theorem dX9_becomes_136 : decode cX9_becomes 136 = .ok (.iload 5, 2) := by decide +kernel
theorem dX9_becomes_138 : decode cX9_becomes 138 = .ok (.iconst 1, 1) := by decide +kernel
theorem dX9_becomes_139 : decode cX9_becomes 139 = .ok (.isub, 1) := by decide +kernel
theorem dX9_becomes_140 : decode cX9_becomes 140 = .ok (.iload 9, 2) := by decide +kernel
theorem dX9_becomes_142 : decode cX9_becomes 142 = .ok (.isub, 1) := by decide +kernel
theorem dX9_becomes_143 : decode cX9_becomes 143 = .ok (.goto 5, 3) := by decide +kernel
theorem dX9_becomes_146 : decode cX9_becomes 146 = .ok (.iload 9, 2) := by decide +kernel
theorem dX9_becomes_148 : decode cX9_becomes 148 = .ok (.iaload, 1) := by decide +kernel
theorem dX9_becomes_149 : decode cX9_becomes 149 = .ok (.invokestatic 86, 3) := by decide +kernel
theorem dX9_becomes_152 : decode cX9_becomes 152 = .ok (.iastore, 1) := by decide +kernel
theorem dX9_becomes_153 : decode cX9_becomes 153 = .ok (.iinc 9 1, 3) := by decide +kernel
theorem dX9_becomes_156 : decode cX9_becomes 156 = .ok (.goto (-45), 3) := by decide +kernel
theorem dX9_becomes_159 : decode cX9_becomes 159 = .ok (.iconst 0, 1) := by decide +kernel
theorem dX9_becomes_160 : decode cX9_becomes 160 = .ok (.istore 9, 2) := by decide +kernel
theorem dX9_becomes_162 : decode cX9_becomes 162 = .ok (.iload 9, 2) := by decide +kernel
theorem dX9_becomes_164 : decode cX9_becomes 164 = .ok (.iload 5, 2) := by decide +kernel
theorem dX9_becomes_166 : decode cX9_becomes 166 = .ok (.if_icmp .ge 23, 3) := by decide +kernel
theorem dX9_becomes_169 : decode cX9_becomes 169 = .ok (.aload_n 0, 1) := by decide +kernel
theorem dX9_becomes_170 : decode cX9_becomes 170 = .ok (.getfield 46, 3) := by decide +kernel
theorem dX9_becomes_173 : decode cX9_becomes 173 = .ok (.iload 9, 2) := by decide +kernel
theorem dX9_becomes_175 : decode cX9_becomes 175 = .ok (.aload_n 0, 1) := by decide +kernel
theorem dX9_becomes_176 : decode cX9_becomes 176 = .ok (.getfield 49, 3) := by decide +kernel
theorem dX9_becomes_179 : decode cX9_becomes 179 = .ok (.iload 9, 2) := by decide +kernel
theorem dX9_becomes_181 : decode cX9_becomes 181 = .ok (.iaload, 1) := by decide +kernel
theorem dX9_becomes_182 : decode cX9_becomes 182 = .ok (.iastore, 1) := by decide +kernel
theorem dX9_becomes_183 : decode cX9_becomes 183 = .ok (.iinc 9 1, 3) := by decide +kernel
theorem dX9_becomes_186 : decode cX9_becomes 186 = .ok (.goto (-24), 3) := by decide +kernel
theorem dX9_becomes_189 : decode cX9_becomes 189 = .ok (.iinc 7 1, 3) := by decide +kernel
theorem dX9_becomes_192 : decode cX9_becomes 192 = .ok (.goto (-122), 3) := by decide +kernel
theorem dX9_becomes_195 : decode cX9_becomes 195 = .ok (.iconst 1, 1) := by decide +kernel
theorem dX9_becomes_196 : decode cX9_becomes 196 = .ok (.istore 7, 2) := by decide +kernel
theorem dX9_becomes_198 : decode cX9_becomes 198 = .ok (.iconst 0, 1) := by decide +kernel
theorem dX9_becomes_199 : decode cX9_becomes 199 = .ok (.istore 8, 2) := by decide +kernel
theorem dX9_becomes_201 : decode cX9_becomes 201 = .ok (.iload 8, 2) := by decide +kernel
theorem dX9_becomes_203 : decode cX9_becomes 203 = .ok (.iload 5, 2) := by decide +kernel
theorem dX9_becomes_205 : decode cX9_becomes 205 = .ok (.if_icmp .ge 41, 3) := by decide +kernel
theorem dX9_becomes_208 : decode cX9_becomes 208 = .ok (.iload 7, 2) := by decide +kernel
theorem dX9_becomes_210 : decode cX9_becomes 210 = .ok (.ifCond .eq 27, 3) := by decide +kernel
theorem dX9_becomes_213 : decode cX9_becomes 213 = .ok (.aload_n 0, 1) := by decide +kernel
theorem dX9_becomes_214 : decode cX9_becomes 214 = .ok (.getfield 46, 3) := by decide +kernel
theorem dX9_becomes_217 : decode cX9_becomes 217 = .ok (.iload 8, 2) := by decide +kernel
theorem dX9_becomes_219 : decode cX9_becomes 219 = .ok (.iaload, 1) := by decide +kernel
theorem dX9_becomes_220 : decode cX9_becomes 220 = .ok (.aload_n 0, 1) := by decide +kernel
theorem dX9_becomes_221 : decode cX9_becomes 221 = .ok (.getfield 25, 3) := by decide +kernel
theorem dX9_becomes_224 : decode cX9_becomes 224 = .ok (.iload 4, 2) := by decide +kernel
theorem dX9_becomes_226 : decode cX9_becomes 226 = .ok (.iload 8, 2) := by decide +kernel
theorem dX9_becomes_228 : decode cX9_becomes 228 = .ok (.iadd, 1) := by decide +kernel
theorem dX9_becomes_229 : decode cX9_becomes 229 = .ok (.iaload, 1) := by decide +kernel
theorem dX9_becomes_230 : decode cX9_becomes 230 = .ok (.if_icmp .ne 7, 3) := by decide +kernel
theorem dX9_becomes_233 : decode cX9_becomes 233 = .ok (.iconst 1, 1) := by decide +kernel
theorem dX9_becomes_234 : decode cX9_becomes 234 = .ok (.goto 4, 3) := by decide +kernel
theorem dX9_becomes_237 : decode cX9_becomes 237 = .ok (.iconst 0, 1) := by decide +kernel
theorem dX9_becomes_238 : decode cX9_becomes 238 = .ok (.istore 7, 2) := by decide +kernel
theorem dX9_becomes_240 : decode cX9_becomes 240 = .ok (.iinc 8 1, 3) := by decide +kernel
theorem dX9_becomes_243 : decode cX9_becomes 243 = .ok (.goto (-42), 3) := by decide +kernel
theorem dX9_becomes_246 : decode cX9_becomes 246 = .ok (.iload 7, 2) := by decide +kernel
theorem dX9_becomes_248 : decode cX9_becomes 248 = .ok (.ireturn, 1) := by decide +kernel
theorem dX9_passed_0 : decode cX9_passed 0 = .ok (.aload_n 0, 1) := by decide +kernel
theorem dX9_passed_1 : decode cX9_passed 1 = .ok (.iload_n 1, 1) := by decide +kernel
theorem dX9_passed_2 : decode cX9_passed 2 = .ok (.invokevirtual 72, 3) := by decide +kernel
theorem dX9_passed_5 : decode cX9_passed 5 = .ok (.ifCond .eq 53, 3) := by decide +kernel
theorem dX9_passed_8 : decode cX9_passed 8 = .ok (.iload_n 2, 1) := by decide +kernel
theorem dX9_passed_9 : decode cX9_passed 9 = .ok (.i2l, 1) := by decide +kernel
theorem dX9_passed_10 : decode cX9_passed 10 = .ok (.lconst 1, 1) := by decide +kernel
theorem dX9_passed_11 : decode cX9_passed 11 = .ok (.ldc2_w 82, 3) := by decide +kernel
theorem dX9_passed_14 : decode cX9_passed 14 = .ok (.invokestatic 52, 3) := by decide +kernel
theorem dX9_passed_17 : decode cX9_passed 17 = .ok (.ifCond .eq 41, 3) := by decide +kernel
theorem dX9_passed_20 : decode cX9_passed 20 = .ok (.iload_n 3, 1) := by decide +kernel
theorem dX9_passed_21 : decode cX9_passed 21 = .ok (.iload 4, 2) := by decide +kernel
theorem dX9_passed_23 : decode cX9_passed 23 = .ok (.invokestatic 143, 3) := by decide +kernel
theorem dX9_passed_26 : decode cX9_passed 26 = .ok (.ifCond .eq 32, 3) := by decide +kernel
theorem dX9_passed_29 : decode cX9_passed 29 = .ok (.iload 6, 2) := by decide +kernel
theorem dX9_passed_31 : decode cX9_passed 31 = .ok (.i2l, 1) := by decide +kernel
theorem dX9_passed_32 : decode cX9_passed 32 = .ok (.lconst 1, 1) := by decide +kernel
theorem dX9_passed_33 : decode cX9_passed 33 = .ok (.ldc2_w 80, 3) := by decide +kernel
theorem dX9_passed_36 : decode cX9_passed 36 = .ok (.invokestatic 52, 3) := by decide +kernel
theorem dX9_passed_39 : decode cX9_passed 39 = .ok (.ifCond .eq 19, 3) := by decide +kernel
theorem dX9_passed_42 : decode cX9_passed 42 = .ok (.iload 7, 2) := by decide +kernel
theorem dX9_passed_44 : decode cX9_passed 44 = .ok (.i2l, 1) := by decide +kernel
theorem dX9_passed_45 : decode cX9_passed 45 = .ok (.ldc2_w 117, 3) := by decide +kernel
theorem dX9_passed_48 : decode cX9_passed 48 = .ok (.iload_n 2, 1) := by decide +kernel
theorem dX9_passed_49 : decode cX9_passed 49 = .ok (.iconst 1, 1) := by decide +kernel
theorem dX9_passed_50 : decode cX9_passed 50 = .ok (.isub, 1) := by decide +kernel
theorem dX9_passed_51 : decode cX9_passed 51 = .ok (.i2l, 1) := by decide +kernel
theorem dX9_passed_52 : decode cX9_passed 52 = .ok (.invokestatic 52, 3) := by decide +kernel
theorem dX9_passed_55 : decode cX9_passed 55 = .ok (.ifCond .ne 5, 3) := by decide +kernel
theorem dX9_passed_58 : decode cX9_passed 58 = .ok (.iconst (-1), 1) := by decide +kernel
theorem dX9_passed_59 : decode cX9_passed 59 = .ok (.ireturn, 1) := by decide +kernel
theorem dX9_passed_60 : decode cX9_passed 60 = .ok (.aload_n 0, 1) := by decide +kernel
theorem dX9_passed_61 : decode cX9_passed 61 = .ok (.iload_n 3, 1) := by decide +kernel
theorem dX9_passed_62 : decode cX9_passed 62 = .ok (.iload 4, 2) := by decide +kernel
theorem dX9_passed_64 : decode cX9_passed 64 = .ok (.iload 5, 2) := by decide +kernel
theorem dX9_passed_66 : decode cX9_passed 66 = .ok (.iload 6, 2) := by decide +kernel
theorem dX9_passed_68 : decode cX9_passed 68 = .ok (.bipush 9, 2) := by decide +kernel
theorem dX9_passed_70 : decode cX9_passed 70 = .ok (.invokevirtual 148, 3) := by decide +kernel
theorem dX9_passed_73 : decode cX9_passed 73 = .ok (.istore 8, 2) := by decide +kernel
theorem dX9_passed_75 : decode cX9_passed 75 = .ok (.iload 8, 2) := by decide +kernel
theorem dX9_passed_77 : decode cX9_passed 77 = .ok (.ifCond .ge 6, 3) := by decide +kernel
theorem dX9_passed_80 : decode cX9_passed 80 = .ok (.iload 8, 2) := by decide +kernel
theorem dX9_passed_82 : decode cX9_passed 82 = .ok (.ireturn, 1) := by decide +kernel
theorem dX9_passed_83 : decode cX9_passed 83 = .ok (.aload_n 0, 1) := by decide +kernel
theorem dX9_passed_84 : decode cX9_passed 84 = .ok (.getfield 7, 3) := by decide +kernel
theorem dX9_passed_87 : decode cX9_passed 87 = .ok (.iconst 1, 1) := by decide +kernel
theorem dX9_passed_88 : decode cX9_passed 88 = .ok (.iaload, 1) := by decide +kernel
theorem dX9_passed_89 : decode cX9_passed 89 = .ok (.istore 9, 2) := by decide +kernel
theorem dX9_passed_91 : decode cX9_passed 91 = .ok (.iload_n 2, 1) := by decide +kernel
theorem dX9_passed_92 : decode cX9_passed 92 = .ok (.iconst 1, 1) := by decide +kernel
theorem dX9_passed_93 : decode cX9_passed 93 = .ok (.if_icmp .ne 8, 3) := by decide +kernel
theorem dX9_passed_96 : decode cX9_passed 96 = .ok (.iload 9, 2) := by decide +kernel
theorem dX9_passed_98 : decode cX9_passed 98 = .ok (.goto 24, 3) := by decide +kernel
theorem dX9_passed_101 : decode cX9_passed 101 = .ok (.iload_n 2, 1) := by decide +kernel
theorem dX9_passed_102 : decode cX9_passed 102 = .ok (.iconst 2, 1) := by decide +kernel
theorem dX9_passed_103 : decode cX9_passed 103 = .ok (.if_icmp .ne 11, 3) := by decide +kernel
theorem dX9_passed_106 : decode cX9_passed 106 = .ok (.iload 9, 2) := by decide +kernel
theorem dX9_passed_108 : decode cX9_passed 108 = .ok (.iload 9, 2) := by decide +kernel
theorem dX9_passed_110 : decode cX9_passed 110 = .ok (.imul, 1) := by decide +kernel
theorem dX9_passed_111 : decode cX9_passed 111 = .ok (.goto 11, 3) := by decide +kernel
theorem dX9_passed_114 : decode cX9_passed 114 = .ok (.iload 9, 2) := by decide +kernel
theorem dX9_passed_116 : decode cX9_passed 116 = .ok (.iload 9, 2) := by decide +kernel
theorem dX9_passed_118 : decode cX9_passed 118 = .ok (.imul, 1) := by decide +kernel
theorem dX9_passed_119 : decode cX9_passed 119 = .ok (.iload 9, 2) := by decide +kernel
theorem dX9_passed_121 : decode cX9_passed 121 = .ok (.imul, 1) := by decide +kernel
theorem dX9_passed_122 : decode cX9_passed 122 = .ok (.istore 10, 2) := by decide +kernel
theorem dX9_passed_124 : decode cX9_passed 124 = .ok (.iconst 0, 1) := by decide +kernel
theorem dX9_passed_125 : decode cX9_passed 125 = .ok (.istore 11, 2) := by decide +kernel
theorem dX9_passed_127 : decode cX9_passed 127 = .ok (.bipush (-4), 2) := by decide +kernel
theorem dX9_passed_129 : decode cX9_passed 129 = .ok (.istore 12, 2) := by decide +kernel
theorem dX9_passed_131 : decode cX9_passed 131 = .ok (.iconst 0, 1) := by decide +kernel
theorem dX9_passed_132 : decode cX9_passed 132 = .ok (.istore 13, 2) := by decide +kernel
theorem dX9_passed_134 : decode cX9_passed 134 = .ok (.iload 13, 2) := by decide +kernel
theorem dX9_passed_136 : decode cX9_passed 136 = .ok (.iload 10, 2) := by decide +kernel
theorem dX9_passed_138 : decode cX9_passed 138 = .ok (.if_icmp .ge 62, 3) := by decide +kernel
theorem dX9_passed_141 : decode cX9_passed 141 = .ok (.iload 6, 2) := by decide +kernel
theorem dX9_passed_143 : decode cX9_passed 143 = .ok (.aload_n 0, 1) := by decide +kernel
theorem dX9_passed_144 : decode cX9_passed 144 = .ok (.getfield 7, 3) := by decide +kernel
theorem dX9_passed_147 : decode cX9_passed 147 = .ok (.bipush 81, 2) := by decide +kernel
theorem dX9_passed_149 : decode cX9_passed 149 = .ok (.iload_n 1, 1) := by decide +kernel
theorem dX9_passed_150 : decode cX9_passed 150 = .ok (.iadd, 1) := by decide +kernel
theorem dX9_passed_151 : decode cX9_passed 151 = .ok (.iaload, 1) := by decide +kernel
theorem dX9_passed_152 : decode cX9_passed 152 = .ok (.if_icmp .ne 48, 3) := by decide +kernel
theorem dX9_passed_155 : decode cX9_passed 155 = .ok (.aload_n 0, 1) := by decide +kernel
theorem dX9_passed_156 : decode cX9_passed 156 = .ok (.iload_n 1, 1) := by decide +kernel
theorem dX9_passed_157 : decode cX9_passed 157 = .ok (.iload 13, 2) := by decide +kernel
theorem dX9_passed_159 : decode cX9_passed 159 = .ok (.iload_n 2, 1) := by decide +kernel
theorem dX9_passed_160 : decode cX9_passed 160 = .ok (.bipush 24, 2) := by decide +kernel
theorem dX9_passed_162 : decode cX9_passed 162 = .ok (.iload_n 3, 1) := by decide +kernel
theorem dX9_passed_163 : decode cX9_passed 163 = .ok (.imul, 1) := by decide +kernel
theorem dX9_passed_164 : decode cX9_passed 164 = .ok (.iload 5, 2) := by decide +kernel
theorem dX9_passed_166 : decode cX9_passed 166 = .ok (.iadd, 1) := by decide +kernel
theorem dX9_passed_167 : decode cX9_passed 167 = .ok (.iload 6, 2) := by decide +kernel
theorem dX9_passed_169 : decode cX9_passed 169 = .ok (.invokevirtual 166, 3) := by decide +kernel
theorem dX9_passed_172 : decode cX9_passed 172 = .ok (.ifCond .eq 22, 3) := by decide +kernel
theorem dX9_passed_175 : decode cX9_passed 175 = .ok (.iinc 11 1, 3) := by decide +kernel
theorem dX9_passed_178 : decode cX9_passed 178 = .ok (.iload 12, 2) := by decide +kernel
theorem dX9_passed_180 : decode cX9_passed 180 = .ok (.bipush (-4), 2) := by decide +kernel
theorem dX9_passed_182 : decode cX9_passed 182 = .ok (.if_icmp .ne 8, 3) := by decide +kernel
theorem dX9_passed_185 : decode cX9_passed 185 = .ok (.iload 13, 2) := by decide +kernel
theorem dX9_passed_187 : decode cX9_passed 187 = .ok (.goto 5, 3) := by decide +kernel
theorem dX9_passed_190 : decode cX9_passed 190 = .ok (.iload 12, 2) := by decide +kernel
theorem dX9_passed_192 : decode cX9_passed 192 = .ok (.istore 12, 2) := by decide +kernel
theorem dX9_passed_194 : decode cX9_passed 194 = .ok (.iinc 13 1, 3) := by decide +kernel
theorem dX9_passed_197 : decode cX9_passed 197 = .ok (.goto (-63), 3) := by decide +kernel
theorem dX9_passed_200 : decode cX9_passed 200 = .ok (.iload 7, 2) := by decide +kernel
theorem dX9_passed_202 : decode cX9_passed 202 = .ok (.ifCond .lt 10, 3) := by decide +kernel
theorem dX9_passed_205 : decode cX9_passed 205 = .ok (.iload 12, 2) := by decide +kernel
theorem dX9_passed_207 : decode cX9_passed 207 = .ok (.bipush (-4), 2) := by decide +kernel
theorem dX9_passed_209 : decode cX9_passed 209 = .ok (.if_icmp .ne 16, 3) := by decide +kernel
theorem dX9_passed_212 : decode cX9_passed 212 = .ok (.iload 7, 2) := by decide +kernel
theorem dX9_passed_214 : decode cX9_passed 214 = .ok (.ifCond .ge 8, 3) := by decide +kernel
theorem dX9_passed_217 : decode cX9_passed 217 = .ok (.iload 11, 2) := by decide +kernel
theorem dX9_passed_219 : decode cX9_passed 219 = .ok (.goto 5, 3) := by decide +kernel
theorem dX9_passed_222 : decode cX9_passed 222 = .ok (.bipush (-4), 2) := by decide +kernel
theorem dX9_passed_224 : decode cX9_passed 224 = .ok (.ireturn, 1) := by decide +kernel
theorem dX9_passed_225 : decode cX9_passed 225 = .ok (.iload 7, 2) := by decide +kernel
theorem dX9_passed_227 : decode cX9_passed 227 = .ok (.iconst 1, 1) := by decide +kernel
theorem dX9_passed_228 : decode cX9_passed 228 = .ok (.iadd, 1) := by decide +kernel
theorem dX9_passed_229 : decode cX9_passed 229 = .ok (.istore 13, 2) := by decide +kernel
theorem dX9_passed_231 : decode cX9_passed 231 = .ok (.iload 13, 2) := by decide +kernel
theorem dX9_passed_233 : decode cX9_passed 233 = .ok (.iload_n 2, 1) := by decide +kernel
theorem dX9_passed_234 : decode cX9_passed 234 = .ok (.if_icmp .ge 16, 3) := by decide +kernel
theorem dX9_passed_237 : decode cX9_passed 237 = .ok (.iload 12, 2) := by decide +kernel
theorem dX9_passed_239 : decode cX9_passed 239 = .ok (.iload 9, 2) := by decide +kernel
theorem dX9_passed_241 : decode cX9_passed 241 = .ok (.idiv, 1) := by decide +kernel
theorem dX9_passed_242 : decode cX9_passed 242 = .ok (.istore 12, 2) := by decide +kernel
theorem dX9_passed_244 : decode cX9_passed 244 = .ok (.iinc 13 1, 3) := by decide +kernel
theorem dX9_passed_247 : decode cX9_passed 247 = .ok (.goto (-16), 3) := by decide +kernel
theorem dX9_passed_250 : decode cX9_passed 250 = .ok (.iload 12, 2) := by decide +kernel
theorem dX9_passed_252 : decode cX9_passed 252 = .ok (.iload 9, 2) := by decide +kernel
theorem dX9_passed_254 : decode cX9_passed 254 = .ok (.irem, 1) := by decide +kernel
theorem dX9_passed_255 : decode cX9_passed 255 = .ok (.ireturn, 1) := by decide +kernel
theorem dX9_sheet_0 : decode cX9_sheet 0 = .ok (.iload_n 1, 1) := by decide +kernel
theorem dX9_sheet_1 : decode cX9_sheet 1 = .ok (.iload_n 2, 1) := by decide +kernel
theorem dX9_sheet_2 : decode cX9_sheet 2 = .ok (.invokestatic 143, 3) := by decide +kernel
theorem dX9_sheet_5 : decode cX9_sheet 5 = .ok (.ifCond .eq 9, 3) := by decide +kernel
theorem dX9_sheet_8 : decode cX9_sheet 8 = .ok (.iload_n 3, 1) := by decide +kernel
theorem dX9_sheet_9 : decode cX9_sheet 9 = .ok (.bipush 24, 2) := by decide +kernel
theorem dX9_sheet_11 : decode cX9_sheet 11 = .ok (.if_icmp .le 5, 3) := by decide +kernel
theorem dX9_sheet_14 : decode cX9_sheet 14 = .ok (.iconst (-1), 1) := by decide +kernel
theorem dX9_sheet_15 : decode cX9_sheet 15 = .ok (.ireturn, 1) := by decide +kernel
theorem dX9_sheet_16 : decode cX9_sheet 16 = .ok (.iload_n 3, 1) := by decide +kernel
theorem dX9_sheet_17 : decode cX9_sheet 17 = .ok (.ifCond .ge 6, 3) := by decide +kernel
theorem dX9_sheet_20 : decode cX9_sheet 20 = .ok (.bipush (-14), 2) := by decide +kernel
theorem dX9_sheet_22 : decode cX9_sheet 22 = .ok (.ireturn, 1) := by decide +kernel
theorem dX9_sheet_23 : decode cX9_sheet 23 = .ok (.aload_n 0, 1) := by decide +kernel
theorem dX9_sheet_24 : decode cX9_sheet 24 = .ok (.getfield 19, 3) := by decide +kernel
theorem dX9_sheet_27 : decode cX9_sheet 27 = .ok (.iload_n 1, 1) := by decide +kernel
theorem dX9_sheet_28 : decode cX9_sheet 28 = .ok (.iload_n 3, 1) := by decide +kernel
theorem dX9_sheet_29 : decode cX9_sheet 29 = .ok (.iastore, 1) := by decide +kernel
theorem dX9_sheet_30 : decode cX9_sheet 30 = .ok (.aload_n 0, 1) := by decide +kernel
theorem dX9_sheet_31 : decode cX9_sheet 31 = .ok (.getfield 22, 3) := by decide +kernel
theorem dX9_sheet_34 : decode cX9_sheet 34 = .ok (.iload_n 1, 1) := by decide +kernel
theorem dX9_sheet_35 : decode cX9_sheet 35 = .ok (.iload_n 2, 1) := by decide +kernel
theorem dX9_sheet_36 : decode cX9_sheet 36 = .ok (.iastore, 1) := by decide +kernel
theorem dX9_sheet_37 : decode cX9_sheet 37 = .ok (.iconst 0, 1) := by decide +kernel
theorem dX9_sheet_38 : decode cX9_sheet 38 = .ok (.istore 4, 2) := by decide +kernel
theorem dX9_sheet_40 : decode cX9_sheet 40 = .ok (.iload 4, 2) := by decide +kernel
theorem dX9_sheet_42 : decode cX9_sheet 42 = .ok (.bipush 24, 2) := by decide +kernel
theorem dX9_sheet_44 : decode cX9_sheet 44 = .ok (.if_icmp .ge 22, 3) := by decide +kernel
theorem dX9_sheet_47 : decode cX9_sheet 47 = .ok (.aload_n 0, 1) := by decide +kernel
theorem dX9_sheet_48 : decode cX9_sheet 48 = .ok (.getfield 25, 3) := by decide +kernel
theorem dX9_sheet_51 : decode cX9_sheet 51 = .ok (.bipush 24, 2) := by decide +kernel
theorem dX9_sheet_53 : decode cX9_sheet 53 = .ok (.iload_n 1, 1) := by decide +kernel
theorem dX9_sheet_54 : decode cX9_sheet 54 = .ok (.imul, 1) := by decide +kernel
theorem dX9_sheet_55 : decode cX9_sheet 55 = .ok (.iload 4, 2) := by decide +kernel
theorem dX9_sheet_57 : decode cX9_sheet 57 = .ok (.iadd, 1) := by decide +kernel
theorem dX9_sheet_58 : decode cX9_sheet 58 = .ok (.iconst 0, 1) := by decide +kernel
theorem dX9_sheet_59 : decode cX9_sheet 59 = .ok (.iastore, 1) := by decide +kernel
theorem dX9_sheet_60 : decode cX9_sheet 60 = .ok (.iinc 4 1, 3) := by decide +kernel
theorem dX9_sheet_63 : decode cX9_sheet 63 = .ok (.goto (-23), 3) := by decide +kernel
theorem dX9_sheet_66 : decode cX9_sheet 66 = .ok (.iload_n 3, 1) := by decide +kernel
theorem dX9_sheet_67 : decode cX9_sheet 67 = .ok (.ireturn, 1) := by decide +kernel
theorem dX9_drop_0 : decode cX9_drop 0 = .ok (.iload_n 1, 1) := by decide +kernel
theorem dX9_drop_1 : decode cX9_drop 1 = .ok (.i2l, 1) := by decide +kernel
theorem dX9_drop_2 : decode cX9_drop 2 = .ok (.lconst 0, 1) := by decide +kernel
theorem dX9_drop_3 : decode cX9_drop 3 = .ok (.ldc2_w 82, 3) := by decide +kernel
theorem dX9_drop_6 : decode cX9_drop 6 = .ok (.invokestatic 52, 3) := by decide +kernel
theorem dX9_drop_9 : decode cX9_drop 9 = .ok (.ifCond .ne 5, 3) := by decide +kernel
theorem dX9_drop_12 : decode cX9_drop 12 = .ok (.iconst (-1), 1) := by decide +kernel
theorem dX9_drop_13 : decode cX9_drop 13 = .ok (.ireturn, 1) := by decide +kernel
theorem dX9_drop_14 : decode cX9_drop 14 = .ok (.aload_n 0, 1) := by decide +kernel
theorem dX9_drop_15 : decode cX9_drop 15 = .ok (.getfield 19, 3) := by decide +kernel
theorem dX9_drop_18 : decode cX9_drop 18 = .ok (.iload_n 1, 1) := by decide +kernel
theorem dX9_drop_19 : decode cX9_drop 19 = .ok (.iaload, 1) := by decide +kernel
theorem dX9_drop_20 : decode cX9_drop 20 = .ok (.ifCond .ge 6, 3) := by decide +kernel
theorem dX9_drop_23 : decode cX9_drop 23 = .ok (.bipush (-11), 2) := by decide +kernel
theorem dX9_drop_25 : decode cX9_drop 25 = .ok (.ireturn, 1) := by decide +kernel
theorem dX9_drop_26 : decode cX9_drop 26 = .ok (.aload_n 0, 1) := by decide +kernel
theorem dX9_drop_27 : decode cX9_drop 27 = .ok (.getfield 19, 3) := by decide +kernel
theorem dX9_drop_30 : decode cX9_drop 30 = .ok (.iload_n 1, 1) := by decide +kernel
theorem dX9_drop_31 : decode cX9_drop 31 = .ok (.iaload, 1) := by decide +kernel
theorem dX9_drop_32 : decode cX9_drop 32 = .ok (.istore_n 2, 1) := by decide +kernel
theorem dX9_drop_33 : decode cX9_drop 33 = .ok (.aload_n 0, 1) := by decide +kernel
theorem dX9_drop_34 : decode cX9_drop 34 = .ok (.getfield 19, 3) := by decide +kernel
theorem dX9_drop_37 : decode cX9_drop 37 = .ok (.iload_n 1, 1) := by decide +kernel
theorem dX9_drop_38 : decode cX9_drop 38 = .ok (.iconst (-1), 1) := by decide +kernel
theorem dX9_drop_39 : decode cX9_drop 39 = .ok (.iastore, 1) := by decide +kernel
theorem dX9_drop_40 : decode cX9_drop 40 = .ok (.iload_n 2, 1) := by decide +kernel
theorem dX9_drop_41 : decode cX9_drop 41 = .ok (.ireturn, 1) := by decide +kernel
theorem dX9_item_0 : decode cX9_item 0 = .ok (.iload_n 1, 1) := by decide +kernel
theorem dX9_item_1 : decode cX9_item 1 = .ok (.iload_n 2, 1) := by decide +kernel
theorem dX9_item_2 : decode cX9_item 2 = .ok (.invokestatic 143, 3) := by decide +kernel
theorem dX9_item_5 : decode cX9_item 5 = .ok (.ifCond .ne 5, 3) := by decide +kernel
theorem dX9_item_8 : decode cX9_item 8 = .ok (.iconst (-1), 1) := by decide +kernel
theorem dX9_item_9 : decode cX9_item 9 = .ok (.ireturn, 1) := by decide +kernel
theorem dX9_item_10 : decode cX9_item 10 = .ok (.aload_n 0, 1) := by decide +kernel
theorem dX9_item_11 : decode cX9_item 11 = .ok (.iload_n 1, 1) := by decide +kernel
theorem dX9_item_12 : decode cX9_item 12 = .ok (.iload_n 2, 1) := by decide +kernel
theorem dX9_item_13 : decode cX9_item 13 = .ok (.iload_n 3, 1) := by decide +kernel
theorem dX9_item_14 : decode cX9_item 14 = .ok (.iconst 1, 1) := by decide +kernel
theorem dX9_item_15 : decode cX9_item 15 = .ok (.invokevirtual 133, 3) := by decide +kernel
theorem dX9_item_18 : decode cX9_item 18 = .ok (.istore 6, 2) := by decide +kernel
theorem dX9_item_20 : decode cX9_item 20 = .ok (.iload 6, 2) := by decide +kernel
theorem dX9_item_22 : decode cX9_item 22 = .ok (.ifCond .ge 6, 3) := by decide +kernel
theorem dX9_item_25 : decode cX9_item 25 = .ok (.iload 6, 2) := by decide +kernel
theorem dX9_item_27 : decode cX9_item 27 = .ok (.ireturn, 1) := by decide +kernel
theorem dX9_item_28 : decode cX9_item 28 = .ok (.aload_n 0, 1) := by decide +kernel
theorem dX9_item_29 : decode cX9_item 29 = .ok (.getfield 25, 3) := by decide +kernel
theorem dX9_item_32 : decode cX9_item 32 = .ok (.bipush 24, 2) := by decide +kernel
theorem dX9_item_34 : decode cX9_item 34 = .ok (.iload_n 1, 1) := by decide +kernel
theorem dX9_item_35 : decode cX9_item 35 = .ok (.imul, 1) := by decide +kernel
theorem dX9_item_36 : decode cX9_item 36 = .ok (.iload_n 3, 1) := by decide +kernel
theorem dX9_item_37 : decode cX9_item 37 = .ok (.iadd, 1) := by decide +kernel
theorem dX9_item_38 : decode cX9_item 38 = .ok (.iload_n 2, 1) := by decide +kernel
theorem dX9_item_39 : decode cX9_item 39 = .ok (.ifCond .ne 10, 3) := by decide +kernel
theorem dX9_item_42 : decode cX9_item 42 = .ok (.lload 4, 2) := by decide +kernel
theorem dX9_item_44 : decode cX9_item 44 = .ok (.l2i, 1) := by decide +kernel
theorem dX9_item_45 : decode cX9_item 45 = .ok (.i2b, 1) := by decide +kernel
theorem dX9_item_46 : decode cX9_item 46 = .ok (.goto 18, 3) := by decide +kernel
theorem dX9_item_49 : decode cX9_item 49 = .ok (.iload_n 2, 1) := by decide +kernel
theorem dX9_item_50 : decode cX9_item 50 = .ok (.iconst 1, 1) := by decide +kernel
theorem dX9_item_51 : decode cX9_item 51 = .ok (.if_icmp .ne 10, 3) := by decide +kernel
theorem dX9_item_54 : decode cX9_item 54 = .ok (.lload 4, 2) := by decide +kernel
theorem dX9_item_56 : decode cX9_item 56 = .ok (.l2i, 1) := by decide +kernel
theorem dX9_item_57 : decode cX9_item 57 = .ok (.i2s, 1) := by decide +kernel
theorem dX9_item_58 : decode cX9_item 58 = .ok (.goto 6, 3) := by decide +kernel
theorem dX9_item_61 : decode cX9_item 61 = .ok (.lload 4, 2) := by decide +kernel
theorem dX9_item_63 : decode cX9_item 63 = .ok (.l2i, 1) := by decide +kernel
theorem dX9_item_64 : decode cX9_item 64 = .ok (.iastore, 1) := by decide +kernel
theorem dX9_item_65 : decode cX9_item 65 = .ok (.iconst 1, 1) := by decide +kernel
theorem dX9_item_66 : decode cX9_item 66 = .ok (.ireturn, 1) := by decide +kernel
theorem dX9_copy_0 : decode cX9_copy 0 = .ok (.iload_n 1, 1) := by decide +kernel
theorem dX9_copy_1 : decode cX9_copy 1 = .ok (.i2l, 1) := by decide +kernel
theorem dX9_copy_2 : decode cX9_copy 2 = .ok (.lconst 0, 1) := by decide +kernel
theorem dX9_copy_3 : decode cX9_copy 3 = .ok (.ldc2_w 82, 3) := by decide +kernel
theorem dX9_copy_6 : decode cX9_copy 6 = .ok (.invokestatic 52, 3) := by decide +kernel
theorem dX9_copy_9 : decode cX9_copy 9 = .ok (.ifCond .eq 15, 3) := by decide +kernel
theorem dX9_copy_12 : decode cX9_copy 12 = .ok (.iload_n 3, 1) := by decide +kernel
theorem dX9_copy_13 : decode cX9_copy 13 = .ok (.i2l, 1) := by decide +kernel
theorem dX9_copy_14 : decode cX9_copy 14 = .ok (.lconst 0, 1) := by decide +kernel
theorem dX9_copy_15 : decode cX9_copy 15 = .ok (.ldc2_w 82, 3) := by decide +kernel
theorem dX9_copy_18 : decode cX9_copy 18 = .ok (.invokestatic 52, 3) := by decide +kernel
theorem dX9_copy_21 : decode cX9_copy 21 = .ok (.ifCond .ne 5, 3) := by decide +kernel
theorem dX9_copy_24 : decode cX9_copy 24 = .ok (.iconst (-1), 1) := by decide +kernel
theorem dX9_copy_25 : decode cX9_copy 25 = .ok (.ireturn, 1) := by decide +kernel
theorem dX9_copy_26 : decode cX9_copy 26 = .ok (.aload_n 0, 1) := by decide +kernel
theorem dX9_copy_27 : decode cX9_copy 27 = .ok (.getfield 19, 3) := by decide +kernel
theorem dX9_copy_30 : decode cX9_copy 30 = .ok (.iload_n 1, 1) := by decide +kernel
theorem dX9_copy_31 : decode cX9_copy 31 = .ok (.iaload, 1) := by decide +kernel
theorem dX9_copy_32 : decode cX9_copy 32 = .ok (.ifCond .lt 12, 3) := by decide +kernel
theorem dX9_copy_35 : decode cX9_copy 35 = .ok (.aload_n 0, 1) := by decide +kernel
theorem dX9_copy_36 : decode cX9_copy 36 = .ok (.getfield 19, 3) := by decide +kernel
theorem dX9_copy_39 : decode cX9_copy 39 = .ok (.iload_n 3, 1) := by decide +kernel
theorem dX9_copy_40 : decode cX9_copy 40 = .ok (.iaload, 1) := by decide +kernel
theorem dX9_copy_41 : decode cX9_copy 41 = .ok (.ifCond .ge 6, 3) := by decide +kernel
theorem dX9_copy_44 : decode cX9_copy 44 = .ok (.bipush (-11), 2) := by decide +kernel
theorem dX9_copy_46 : decode cX9_copy 46 = .ok (.ireturn, 1) := by decide +kernel
theorem dX9_copy_47 : decode cX9_copy 47 = .ok (.aload_n 0, 1) := by decide +kernel
theorem dX9_copy_48 : decode cX9_copy 48 = .ok (.getfield 22, 3) := by decide +kernel
theorem dX9_copy_51 : decode cX9_copy 51 = .ok (.iload_n 1, 1) := by decide +kernel
theorem dX9_copy_52 : decode cX9_copy 52 = .ok (.iaload, 1) := by decide +kernel
theorem dX9_copy_53 : decode cX9_copy 53 = .ok (.aload_n 0, 1) := by decide +kernel
theorem dX9_copy_54 : decode cX9_copy 54 = .ok (.getfield 22, 3) := by decide +kernel
theorem dX9_copy_57 : decode cX9_copy 57 = .ok (.iload_n 3, 1) := by decide +kernel
theorem dX9_copy_58 : decode cX9_copy 58 = .ok (.iaload, 1) := by decide +kernel
theorem dX9_copy_59 : decode cX9_copy 59 = .ok (.if_icmp .eq 6, 3) := by decide +kernel
theorem dX9_copy_62 : decode cX9_copy 62 = .ok (.bipush (-12), 2) := by decide +kernel
theorem dX9_copy_64 : decode cX9_copy 64 = .ok (.ireturn, 1) := by decide +kernel
theorem dX9_copy_65 : decode cX9_copy 65 = .ok (.iload 5, 2) := by decide +kernel
theorem dX9_copy_67 : decode cX9_copy 67 = .ok (.ifCond .lt 38, 3) := by decide +kernel
theorem dX9_copy_70 : decode cX9_copy 70 = .ok (.aload_n 0, 1) := by decide +kernel
theorem dX9_copy_71 : decode cX9_copy 71 = .ok (.iload_n 1, 1) := by decide +kernel
theorem dX9_copy_72 : decode cX9_copy 72 = .ok (.aload_n 0, 1) := by decide +kernel
theorem dX9_copy_73 : decode cX9_copy 73 = .ok (.getfield 22, 3) := by decide +kernel
theorem dX9_copy_76 : decode cX9_copy 76 = .ok (.iload_n 1, 1) := by decide +kernel
theorem dX9_copy_77 : decode cX9_copy 77 = .ok (.iaload, 1) := by decide +kernel
theorem dX9_copy_78 : decode cX9_copy 78 = .ok (.iload_n 2, 1) := by decide +kernel
theorem dX9_copy_79 : decode cX9_copy 79 = .ok (.iload 5, 2) := by decide +kernel
theorem dX9_copy_81 : decode cX9_copy 81 = .ok (.invokevirtual 133, 3) := by decide +kernel
theorem dX9_copy_84 : decode cX9_copy 84 = .ok (.ifCond .lt 21, 3) := by decide +kernel
theorem dX9_copy_87 : decode cX9_copy 87 = .ok (.aload_n 0, 1) := by decide +kernel
theorem dX9_copy_88 : decode cX9_copy 88 = .ok (.iload_n 3, 1) := by decide +kernel
theorem dX9_copy_89 : decode cX9_copy 89 = .ok (.aload_n 0, 1) := by decide +kernel
theorem dX9_copy_90 : decode cX9_copy 90 = .ok (.getfield 22, 3) := by decide +kernel
theorem dX9_copy_93 : decode cX9_copy 93 = .ok (.iload_n 3, 1) := by decide +kernel
theorem dX9_copy_94 : decode cX9_copy 94 = .ok (.iaload, 1) := by decide +kernel
theorem dX9_copy_95 : decode cX9_copy 95 = .ok (.iload 4, 2) := by decide +kernel
theorem dX9_copy_97 : decode cX9_copy 97 = .ok (.iload 5, 2) := by decide +kernel
theorem dX9_copy_99 : decode cX9_copy 99 = .ok (.invokevirtual 133, 3) := by decide +kernel
theorem dX9_copy_102 : decode cX9_copy 102 = .ok (.ifCond .ge 6, 3) := by decide +kernel
theorem dX9_copy_105 : decode cX9_copy 105 = .ok (.bipush (-13), 2) := by decide +kernel
theorem dX9_copy_107 : decode cX9_copy 107 = .ok (.ireturn, 1) := by decide +kernel
theorem dX9_copy_108 : decode cX9_copy 108 = .ok (.iconst 0, 1) := by decide +kernel
theorem dX9_copy_109 : decode cX9_copy 109 = .ok (.istore 6, 2) := by decide +kernel
theorem dX9_copy_111 : decode cX9_copy 111 = .ok (.iload 6, 2) := by decide +kernel
theorem dX9_copy_113 : decode cX9_copy 113 = .ok (.iload 5, 2) := by decide +kernel
theorem dX9_copy_115 : decode cX9_copy 115 = .ok (.if_icmp .ge 58, 3) := by decide +kernel
theorem dX9_copy_118 : decode cX9_copy 118 = .ok (.iload 4, 2) := by decide +kernel
theorem dX9_copy_120 : decode cX9_copy 120 = .ok (.iload_n 2, 1) := by decide +kernel
theorem dX9_copy_121 : decode cX9_copy 121 = .ok (.if_icmp .le 13, 3) := by decide +kernel
theorem dX9_copy_124 : decode cX9_copy 124 = .ok (.iload 5, 2) := by decide +kernel
theorem dX9_copy_126 : decode cX9_copy 126 = .ok (.iconst 1, 1) := by decide +kernel
theorem dX9_copy_127 : decode cX9_copy 127 = .ok (.isub, 1) := by decide +kernel
theorem dX9_copy_128 : decode cX9_copy 128 = .ok (.iload 6, 2) := by decide +kernel
theorem dX9_copy_130 : decode cX9_copy 130 = .ok (.isub, 1) := by decide +kernel
theorem dX9_copy_131 : decode cX9_copy 131 = .ok (.goto 5, 3) := by decide +kernel
theorem dX9_copy_134 : decode cX9_copy 134 = .ok (.iload 6, 2) := by decide +kernel
theorem dX9_copy_136 : decode cX9_copy 136 = .ok (.istore 7, 2) := by decide +kernel
theorem dX9_copy_138 : decode cX9_copy 138 = .ok (.aload_n 0, 1) := by decide +kernel
theorem dX9_copy_139 : decode cX9_copy 139 = .ok (.getfield 25, 3) := by decide +kernel
theorem dX9_copy_142 : decode cX9_copy 142 = .ok (.bipush 24, 2) := by decide +kernel
theorem dX9_copy_144 : decode cX9_copy 144 = .ok (.iload_n 3, 1) := by decide +kernel
theorem dX9_copy_145 : decode cX9_copy 145 = .ok (.imul, 1) := by decide +kernel
theorem dX9_copy_146 : decode cX9_copy 146 = .ok (.iload 4, 2) := by decide +kernel
theorem dX9_copy_148 : decode cX9_copy 148 = .ok (.iadd, 1) := by decide +kernel
theorem dX9_copy_149 : decode cX9_copy 149 = .ok (.iload 7, 2) := by decide +kernel
theorem dX9_copy_151 : decode cX9_copy 151 = .ok (.iadd, 1) := by decide +kernel
theorem dX9_copy_152 : decode cX9_copy 152 = .ok (.aload_n 0, 1) := by decide +kernel
theorem dX9_copy_153 : decode cX9_copy 153 = .ok (.getfield 25, 3) := by decide +kernel
theorem dX9_copy_156 : decode cX9_copy 156 = .ok (.bipush 24, 2) := by decide +kernel
theorem dX9_copy_158 : decode cX9_copy 158 = .ok (.iload_n 1, 1) := by decide +kernel
theorem dX9_copy_159 : decode cX9_copy 159 = .ok (.imul, 1) := by decide +kernel
theorem dX9_copy_160 : decode cX9_copy 160 = .ok (.iload_n 2, 1) := by decide +kernel
theorem dX9_copy_161 : decode cX9_copy 161 = .ok (.iadd, 1) := by decide +kernel
theorem dX9_copy_162 : decode cX9_copy 162 = .ok (.iload 7, 2) := by decide +kernel
theorem dX9_copy_164 : decode cX9_copy 164 = .ok (.iadd, 1) := by decide +kernel
theorem dX9_copy_165 : decode cX9_copy 165 = .ok (.iaload, 1) := by decide +kernel
theorem dX9_copy_166 : decode cX9_copy 166 = .ok (.iastore, 1) := by decide +kernel
theorem dX9_copy_167 : decode cX9_copy 167 = .ok (.iinc 6 1, 3) := by decide +kernel
theorem dX9_copy_170 : decode cX9_copy 170 = .ok (.goto (-59), 3) := by decide +kernel
theorem dX9_copy_173 : decode cX9_copy 173 = .ok (.iload 5, 2) := by decide +kernel
theorem dX9_copy_175 : decode cX9_copy 175 = .ok (.ireturn, 1) := by decide +kernel
end
section
theorem dL_law_0 : decode cL_law 0 = .ok (.new 7, 3) := by decide +kernel
theorem dL_law_3 : decode cL_law 3 = .ok (.dup, 1) := by decide +kernel
theorem dL_law_4 : decode cL_law 4 = .ok (.invokespecial 9, 3) := by decide +kernel
theorem dL_law_7 : decode cL_law 7 = .ok (.astore_n 1, 1) := by decide +kernel
theorem dL_law_8 : decode cL_law 8 = .ok (.new 10, 3) := by decide +kernel
theorem dL_law_11 : decode cL_law 11 = .ok (.dup, 1) := by decide +kernel
theorem dL_law_12 : decode cL_law 12 = .ok (.invokespecial 12, 3) := by decide +kernel
theorem dL_law_15 : decode cL_law 15 = .ok (.astore_n 2, 1) := by decide +kernel
theorem dL_law_16 : decode cL_law 16 = .ok (.iconst 0, 1) := by decide +kernel
theorem dL_law_17 : decode cL_law 17 = .ok (.istore_n 3, 1) := by decide +kernel
theorem dL_law_18 : decode cL_law 18 = .ok (.iload_n 3, 1) := by decide +kernel
theorem dL_law_19 : decode cL_law 19 = .ok (.aload_n 0, 1) := by decide +kernel
theorem dL_law_20 : decode cL_law 20 = .ok (.arraylength, 1) := by decide +kernel
theorem dL_law_21 : decode cL_law 21 = .ok (.bipush 8, 2) := by decide +kernel
theorem dL_law_23 : decode cL_law 23 = .ok (.isub, 1) := by decide +kernel
theorem dL_law_24 : decode cL_law 24 = .ok (.if_icmp .gt 1293, 3) := by decide +kernel
theorem dL_law_27 : decode cL_law 27 = .ok (.aload_n 0, 1) := by decide +kernel
theorem dL_law_28 : decode cL_law 28 = .ok (.iload_n 3, 1) := by decide +kernel
theorem dL_law_29 : decode cL_law 29 = .ok (.iaload, 1) := by decide +kernel
theorem dL_law_30 : decode cL_law 30 = .ok (.bipush 31, 2) := by decide +kernel
theorem dL_law_32 : decode cL_law 32 = .ok (.iand, 1) := by decide +kernel
theorem dL_law_33 : decode cL_law 33 = .ok (.tableswitch 1278 0 26 #[123, 186, 199, 242, 265, 278, 301, 334, 377, 410, 453, 476, 499, 552, 595, 658, 701, 714, 727, 790, 853, 916, 979, 1066, 1109, 1132, 1215], 123) := by decide +kernel
theorem dL_law_156 : decode cL_law 156 = .ok (.aload_n 1, 1) := by decide +kernel
theorem dL_law_157 : decode cL_law 157 = .ok (.aload_n 0, 1) := by decide +kernel
theorem dL_law_158 : decode cL_law 158 = .ok (.iload_n 3, 1) := by decide +kernel
theorem dL_law_159 : decode cL_law 159 = .ok (.iconst 1, 1) := by decide +kernel
theorem dL_law_160 : decode cL_law 160 = .ok (.iadd, 1) := by decide +kernel
theorem dL_law_161 : decode cL_law 161 = .ok (.iaload, 1) := by decide +kernel
theorem dL_law_162 : decode cL_law 162 = .ok (.i2l, 1) := by decide +kernel
theorem dL_law_163 : decode cL_law 163 = .ok (.bipush 32, 2) := by decide +kernel
theorem dL_law_165 : decode cL_law 165 = .ok (.lshl, 1) := by decide +kernel
theorem dL_law_166 : decode cL_law 166 = .ok (.aload_n 0, 1) := by decide +kernel
theorem dL_law_167 : decode cL_law 167 = .ok (.iload_n 3, 1) := by decide +kernel
theorem dL_law_168 : decode cL_law 168 = .ok (.iconst 2, 1) := by decide +kernel
theorem dL_law_169 : decode cL_law 169 = .ok (.iadd, 1) := by decide +kernel
theorem dL_law_170 : decode cL_law 170 = .ok (.iaload, 1) := by decide +kernel
theorem dL_law_171 : decode cL_law 171 = .ok (.i2l, 1) := by decide +kernel
theorem dL_law_172 : decode cL_law 172 = .ok (.ldc2_w 13, 3) := by decide +kernel
theorem dL_law_175 : decode cL_law 175 = .ok (.land, 1) := by decide +kernel
theorem dL_law_176 : decode cL_law 176 = .ok (.lor, 1) := by decide +kernel
theorem dL_law_177 : decode cL_law 177 = .ok (.aload_n 0, 1) := by decide +kernel
theorem dL_law_178 : decode cL_law 178 = .ok (.iload_n 3, 1) := by decide +kernel
theorem dL_law_179 : decode cL_law 179 = .ok (.iconst 3, 1) := by decide +kernel
theorem dL_law_180 : decode cL_law 180 = .ok (.iadd, 1) := by decide +kernel
theorem dL_law_181 : decode cL_law 181 = .ok (.iaload, 1) := by decide +kernel
theorem dL_law_182 : decode cL_law 182 = .ok (.invokevirtual 15, 3) := by decide +kernel
theorem dL_law_185 : decode cL_law 185 = .ok (.aload_n 2, 1) := by decide +kernel
theorem dL_law_186 : decode cL_law 186 = .ok (.aload_n 0, 1) := by decide +kernel
theorem dL_law_187 : decode cL_law 187 = .ok (.iload_n 3, 1) := by decide +kernel
theorem dL_law_188 : decode cL_law 188 = .ok (.iconst 1, 1) := by decide +kernel
theorem dL_law_189 : decode cL_law 189 = .ok (.iadd, 1) := by decide +kernel
theorem dL_law_190 : decode cL_law 190 = .ok (.iaload, 1) := by decide +kernel
theorem dL_law_191 : decode cL_law 191 = .ok (.i2l, 1) := by decide +kernel
theorem dL_law_192 : decode cL_law 192 = .ok (.bipush 32, 2) := by decide +kernel
theorem dL_law_194 : decode cL_law 194 = .ok (.lshl, 1) := by decide +kernel
theorem dL_law_195 : decode cL_law 195 = .ok (.aload_n 0, 1) := by decide +kernel
theorem dL_law_196 : decode cL_law 196 = .ok (.iload_n 3, 1) := by decide +kernel
theorem dL_law_197 : decode cL_law 197 = .ok (.iconst 2, 1) := by decide +kernel
theorem dL_law_198 : decode cL_law 198 = .ok (.iadd, 1) := by decide +kernel
theorem dL_law_199 : decode cL_law 199 = .ok (.iaload, 1) := by decide +kernel
theorem dL_law_200 : decode cL_law 200 = .ok (.i2l, 1) := by decide +kernel
theorem dL_law_201 : decode cL_law 201 = .ok (.ldc2_w 13, 3) := by decide +kernel
theorem dL_law_204 : decode cL_law 204 = .ok (.land, 1) := by decide +kernel
theorem dL_law_205 : decode cL_law 205 = .ok (.lor, 1) := by decide +kernel
theorem dL_law_206 : decode cL_law 206 = .ok (.aload_n 0, 1) := by decide +kernel
theorem dL_law_207 : decode cL_law 207 = .ok (.iload_n 3, 1) := by decide +kernel
theorem dL_law_208 : decode cL_law 208 = .ok (.iconst 3, 1) := by decide +kernel
theorem dL_law_209 : decode cL_law 209 = .ok (.iadd, 1) := by decide +kernel
theorem dL_law_210 : decode cL_law 210 = .ok (.iaload, 1) := by decide +kernel
theorem dL_law_211 : decode cL_law 211 = .ok (.invokevirtual 19, 3) := by decide +kernel
theorem dL_law_214 : decode cL_law 214 = .ok (.if_icmp .eq 1097, 3) := by decide +kernel
theorem dL_law_217 : decode cL_law 217 = .ok (.iconst 0, 1) := by decide +kernel
theorem dL_law_218 : decode cL_law 218 = .ok (.ireturn, 1) := by decide +kernel
theorem dL_law_219 : decode cL_law 219 = .ok (.aload_n 1, 1) := by decide +kernel
theorem dL_law_220 : decode cL_law 220 = .ok (.invokevirtual 20, 3) := by decide +kernel
theorem dL_law_223 : decode cL_law 223 = .ok (.aload_n 2, 1) := by decide +kernel
theorem dL_law_224 : decode cL_law 224 = .ok (.invokevirtual 24, 3) := by decide +kernel
theorem dL_law_227 : decode cL_law 227 = .ok (.if_icmp .eq 1084, 3) := by decide +kernel
theorem dL_law_230 : decode cL_law 230 = .ok (.iconst 0, 1) := by decide +kernel
theorem dL_law_231 : decode cL_law 231 = .ok (.ireturn, 1) := by decide +kernel
theorem dL_law_232 : decode cL_law 232 = .ok (.aload_n 1, 1) := by decide +kernel
theorem dL_law_233 : decode cL_law 233 = .ok (.aload_n 0, 1) := by decide +kernel
theorem dL_law_234 : decode cL_law 234 = .ok (.iload_n 3, 1) := by decide +kernel
theorem dL_law_235 : decode cL_law 235 = .ok (.iconst 1, 1) := by decide +kernel
theorem dL_law_236 : decode cL_law 236 = .ok (.iadd, 1) := by decide +kernel
theorem dL_law_237 : decode cL_law 237 = .ok (.iaload, 1) := by decide +kernel
theorem dL_law_238 : decode cL_law 238 = .ok (.aload_n 0, 1) := by decide +kernel
theorem dL_law_239 : decode cL_law 239 = .ok (.iload_n 3, 1) := by decide +kernel
theorem dL_law_240 : decode cL_law 240 = .ok (.iconst 2, 1) := by decide +kernel
theorem dL_law_241 : decode cL_law 241 = .ok (.iadd, 1) := by decide +kernel
theorem dL_law_242 : decode cL_law 242 = .ok (.iaload, 1) := by decide +kernel
theorem dL_law_243 : decode cL_law 243 = .ok (.aload_n 0, 1) := by decide +kernel
theorem dL_law_244 : decode cL_law 244 = .ok (.iload_n 3, 1) := by decide +kernel
theorem dL_law_245 : decode cL_law 245 = .ok (.iconst 3, 1) := by decide +kernel
theorem dL_law_246 : decode cL_law 246 = .ok (.iadd, 1) := by decide +kernel
theorem dL_law_247 : decode cL_law 247 = .ok (.iaload, 1) := by decide +kernel
theorem dL_law_248 : decode cL_law 248 = .ok (.invokevirtual 25, 3) := by decide +kernel
theorem dL_law_251 : decode cL_law 251 = .ok (.aload_n 2, 1) := by decide +kernel
theorem dL_law_252 : decode cL_law 252 = .ok (.aload_n 0, 1) := by decide +kernel
theorem dL_law_253 : decode cL_law 253 = .ok (.iload_n 3, 1) := by decide +kernel
theorem dL_law_254 : decode cL_law 254 = .ok (.iconst 1, 1) := by decide +kernel
theorem dL_law_255 : decode cL_law 255 = .ok (.iadd, 1) := by decide +kernel
theorem dL_law_256 : decode cL_law 256 = .ok (.iaload, 1) := by decide +kernel
theorem dL_law_257 : decode cL_law 257 = .ok (.aload_n 0, 1) := by decide +kernel
theorem dL_law_258 : decode cL_law 258 = .ok (.iload_n 3, 1) := by decide +kernel
theorem dL_law_259 : decode cL_law 259 = .ok (.iconst 2, 1) := by decide +kernel
theorem dL_law_260 : decode cL_law 260 = .ok (.iadd, 1) := by decide +kernel
theorem dL_law_261 : decode cL_law 261 = .ok (.iaload, 1) := by decide +kernel
theorem dL_law_262 : decode cL_law 262 = .ok (.aload_n 0, 1) := by decide +kernel
theorem dL_law_263 : decode cL_law 263 = .ok (.iload_n 3, 1) := by decide +kernel
theorem dL_law_264 : decode cL_law 264 = .ok (.iconst 3, 1) := by decide +kernel
theorem dL_law_265 : decode cL_law 265 = .ok (.iadd, 1) := by decide +kernel
theorem dL_law_266 : decode cL_law 266 = .ok (.iaload, 1) := by decide +kernel
theorem dL_law_267 : decode cL_law 267 = .ok (.invokevirtual 29, 3) := by decide +kernel
theorem dL_law_270 : decode cL_law 270 = .ok (.if_icmp .eq 1041, 3) := by decide +kernel
theorem dL_law_273 : decode cL_law 273 = .ok (.iconst 0, 1) := by decide +kernel
theorem dL_law_274 : decode cL_law 274 = .ok (.ireturn, 1) := by decide +kernel
theorem dL_law_275 : decode cL_law 275 = .ok (.aload_n 1, 1) := by decide +kernel
theorem dL_law_276 : decode cL_law 276 = .ok (.aload_n 0, 1) := by decide +kernel
theorem dL_law_277 : decode cL_law 277 = .ok (.iload_n 3, 1) := by decide +kernel
theorem dL_law_278 : decode cL_law 278 = .ok (.iconst 1, 1) := by decide +kernel
theorem dL_law_279 : decode cL_law 279 = .ok (.iadd, 1) := by decide +kernel
theorem dL_law_280 : decode cL_law 280 = .ok (.iaload, 1) := by decide +kernel
theorem dL_law_281 : decode cL_law 281 = .ok (.invokevirtual 30, 3) := by decide +kernel
theorem dL_law_284 : decode cL_law 284 = .ok (.aload_n 2, 1) := by decide +kernel
theorem dL_law_285 : decode cL_law 285 = .ok (.aload_n 0, 1) := by decide +kernel
theorem dL_law_286 : decode cL_law 286 = .ok (.iload_n 3, 1) := by decide +kernel
theorem dL_law_287 : decode cL_law 287 = .ok (.iconst 1, 1) := by decide +kernel
theorem dL_law_288 : decode cL_law 288 = .ok (.iadd, 1) := by decide +kernel
theorem dL_law_289 : decode cL_law 289 = .ok (.iaload, 1) := by decide +kernel
theorem dL_law_290 : decode cL_law 290 = .ok (.invokevirtual 34, 3) := by decide +kernel
theorem dL_law_293 : decode cL_law 293 = .ok (.if_icmp .eq 1018, 3) := by decide +kernel
theorem dL_law_296 : decode cL_law 296 = .ok (.iconst 0, 1) := by decide +kernel
theorem dL_law_297 : decode cL_law 297 = .ok (.ireturn, 1) := by decide +kernel
theorem dL_law_298 : decode cL_law 298 = .ok (.aload_n 1, 1) := by decide +kernel
theorem dL_law_299 : decode cL_law 299 = .ok (.invokevirtual 35, 3) := by decide +kernel
theorem dL_law_302 : decode cL_law 302 = .ok (.aload_n 2, 1) := by decide +kernel
theorem dL_law_303 : decode cL_law 303 = .ok (.invokevirtual 38, 3) := by decide +kernel
theorem dL_law_306 : decode cL_law 306 = .ok (.if_icmp .eq 1005, 3) := by decide +kernel
theorem dL_law_309 : decode cL_law 309 = .ok (.iconst 0, 1) := by decide +kernel
theorem dL_law_310 : decode cL_law 310 = .ok (.ireturn, 1) := by decide +kernel
theorem dL_law_311 : decode cL_law 311 = .ok (.aload_n 1, 1) := by decide +kernel
theorem dL_law_312 : decode cL_law 312 = .ok (.aload_n 0, 1) := by decide +kernel
theorem dL_law_313 : decode cL_law 313 = .ok (.iload_n 3, 1) := by decide +kernel
theorem dL_law_314 : decode cL_law 314 = .ok (.iconst 1, 1) := by decide +kernel
theorem dL_law_315 : decode cL_law 315 = .ok (.iadd, 1) := by decide +kernel
theorem dL_law_316 : decode cL_law 316 = .ok (.iaload, 1) := by decide +kernel
theorem dL_law_317 : decode cL_law 317 = .ok (.invokevirtual 39, 3) := by decide +kernel
theorem dL_law_320 : decode cL_law 320 = .ok (.aload_n 2, 1) := by decide +kernel
theorem dL_law_321 : decode cL_law 321 = .ok (.aload_n 0, 1) := by decide +kernel
theorem dL_law_322 : decode cL_law 322 = .ok (.iload_n 3, 1) := by decide +kernel
theorem dL_law_323 : decode cL_law 323 = .ok (.iconst 1, 1) := by decide +kernel
theorem dL_law_324 : decode cL_law 324 = .ok (.iadd, 1) := by decide +kernel
theorem dL_law_325 : decode cL_law 325 = .ok (.iaload, 1) := by decide +kernel
theorem dL_law_326 : decode cL_law 326 = .ok (.invokevirtual 42, 3) := by decide +kernel
theorem dL_law_329 : decode cL_law 329 = .ok (.if_icmp .eq 982, 3) := by decide +kernel
theorem dL_law_332 : decode cL_law 332 = .ok (.iconst 0, 1) := by decide +kernel
theorem dL_law_333 : decode cL_law 333 = .ok (.ireturn, 1) := by decide +kernel
theorem dL_law_334 : decode cL_law 334 = .ok (.aload_n 1, 1) := by decide +kernel
theorem dL_law_335 : decode cL_law 335 = .ok (.aload_n 0, 1) := by decide +kernel
theorem dL_law_336 : decode cL_law 336 = .ok (.iload_n 3, 1) := by decide +kernel
theorem dL_law_337 : decode cL_law 337 = .ok (.iconst 1, 1) := by decide +kernel
theorem dL_law_338 : decode cL_law 338 = .ok (.iadd, 1) := by decide +kernel
theorem dL_law_339 : decode cL_law 339 = .ok (.iaload, 1) := by decide +kernel
theorem dL_law_340 : decode cL_law 340 = .ok (.aload_n 0, 1) := by decide +kernel
theorem dL_law_341 : decode cL_law 341 = .ok (.iload_n 3, 1) := by decide +kernel
theorem dL_law_342 : decode cL_law 342 = .ok (.iconst 2, 1) := by decide +kernel
theorem dL_law_343 : decode cL_law 343 = .ok (.iadd, 1) := by decide +kernel
theorem dL_law_344 : decode cL_law 344 = .ok (.iaload, 1) := by decide +kernel
theorem dL_law_345 : decode cL_law 345 = .ok (.invokevirtual 43, 3) := by decide +kernel
theorem dL_law_348 : decode cL_law 348 = .ok (.aload_n 2, 1) := by decide +kernel
theorem dL_law_349 : decode cL_law 349 = .ok (.aload_n 0, 1) := by decide +kernel
theorem dL_law_350 : decode cL_law 350 = .ok (.iload_n 3, 1) := by decide +kernel
theorem dL_law_351 : decode cL_law 351 = .ok (.iconst 1, 1) := by decide +kernel
theorem dL_law_352 : decode cL_law 352 = .ok (.iadd, 1) := by decide +kernel
theorem dL_law_353 : decode cL_law 353 = .ok (.iaload, 1) := by decide +kernel
theorem dL_law_354 : decode cL_law 354 = .ok (.aload_n 0, 1) := by decide +kernel
theorem dL_law_355 : decode cL_law 355 = .ok (.iload_n 3, 1) := by decide +kernel
theorem dL_law_356 : decode cL_law 356 = .ok (.iconst 2, 1) := by decide +kernel
theorem dL_law_357 : decode cL_law 357 = .ok (.iadd, 1) := by decide +kernel
theorem dL_law_358 : decode cL_law 358 = .ok (.iaload, 1) := by decide +kernel
theorem dL_law_359 : decode cL_law 359 = .ok (.invokevirtual 47, 3) := by decide +kernel
theorem dL_law_362 : decode cL_law 362 = .ok (.if_icmp .eq 949, 3) := by decide +kernel
theorem dL_law_365 : decode cL_law 365 = .ok (.iconst 0, 1) := by decide +kernel
theorem dL_law_366 : decode cL_law 366 = .ok (.ireturn, 1) := by decide +kernel
theorem dL_law_367 : decode cL_law 367 = .ok (.aload_n 1, 1) := by decide +kernel
theorem dL_law_368 : decode cL_law 368 = .ok (.aload_n 0, 1) := by decide +kernel
theorem dL_law_369 : decode cL_law 369 = .ok (.iload_n 3, 1) := by decide +kernel
theorem dL_law_370 : decode cL_law 370 = .ok (.iconst 1, 1) := by decide +kernel
theorem dL_law_371 : decode cL_law 371 = .ok (.iadd, 1) := by decide +kernel
theorem dL_law_372 : decode cL_law 372 = .ok (.iaload, 1) := by decide +kernel
theorem dL_law_373 : decode cL_law 373 = .ok (.aload_n 0, 1) := by decide +kernel
theorem dL_law_374 : decode cL_law 374 = .ok (.iload_n 3, 1) := by decide +kernel
theorem dL_law_375 : decode cL_law 375 = .ok (.iconst 2, 1) := by decide +kernel
theorem dL_law_376 : decode cL_law 376 = .ok (.iadd, 1) := by decide +kernel
theorem dL_law_377 : decode cL_law 377 = .ok (.iaload, 1) := by decide +kernel
theorem dL_law_378 : decode cL_law 378 = .ok (.aload_n 0, 1) := by decide +kernel
theorem dL_law_379 : decode cL_law 379 = .ok (.iload_n 3, 1) := by decide +kernel
theorem dL_law_380 : decode cL_law 380 = .ok (.iconst 3, 1) := by decide +kernel
theorem dL_law_381 : decode cL_law 381 = .ok (.iadd, 1) := by decide +kernel
theorem dL_law_382 : decode cL_law 382 = .ok (.iaload, 1) := by decide +kernel
theorem dL_law_383 : decode cL_law 383 = .ok (.invokevirtual 48, 3) := by decide +kernel
theorem dL_law_386 : decode cL_law 386 = .ok (.aload_n 2, 1) := by decide +kernel
theorem dL_law_387 : decode cL_law 387 = .ok (.aload_n 0, 1) := by decide +kernel
theorem dL_law_388 : decode cL_law 388 = .ok (.iload_n 3, 1) := by decide +kernel
theorem dL_law_389 : decode cL_law 389 = .ok (.iconst 1, 1) := by decide +kernel
theorem dL_law_390 : decode cL_law 390 = .ok (.iadd, 1) := by decide +kernel
theorem dL_law_391 : decode cL_law 391 = .ok (.iaload, 1) := by decide +kernel
theorem dL_law_392 : decode cL_law 392 = .ok (.aload_n 0, 1) := by decide +kernel
theorem dL_law_393 : decode cL_law 393 = .ok (.iload_n 3, 1) := by decide +kernel
theorem dL_law_394 : decode cL_law 394 = .ok (.iconst 2, 1) := by decide +kernel
theorem dL_law_395 : decode cL_law 395 = .ok (.iadd, 1) := by decide +kernel
theorem dL_law_396 : decode cL_law 396 = .ok (.iaload, 1) := by decide +kernel
theorem dL_law_397 : decode cL_law 397 = .ok (.aload_n 0, 1) := by decide +kernel
theorem dL_law_398 : decode cL_law 398 = .ok (.iload_n 3, 1) := by decide +kernel
theorem dL_law_399 : decode cL_law 399 = .ok (.iconst 3, 1) := by decide +kernel
theorem dL_law_400 : decode cL_law 400 = .ok (.iadd, 1) := by decide +kernel
theorem dL_law_401 : decode cL_law 401 = .ok (.iaload, 1) := by decide +kernel
theorem dL_law_402 : decode cL_law 402 = .ok (.invokevirtual 51, 3) := by decide +kernel
theorem dL_law_405 : decode cL_law 405 = .ok (.if_icmp .eq 906, 3) := by decide +kernel
theorem dL_law_408 : decode cL_law 408 = .ok (.iconst 0, 1) := by decide +kernel
theorem dL_law_409 : decode cL_law 409 = .ok (.ireturn, 1) := by decide +kernel
theorem dL_law_410 : decode cL_law 410 = .ok (.aload_n 1, 1) := by decide +kernel
theorem dL_law_411 : decode cL_law 411 = .ok (.aload_n 0, 1) := by decide +kernel
theorem dL_law_412 : decode cL_law 412 = .ok (.iload_n 3, 1) := by decide +kernel
theorem dL_law_413 : decode cL_law 413 = .ok (.iconst 1, 1) := by decide +kernel
theorem dL_law_414 : decode cL_law 414 = .ok (.iadd, 1) := by decide +kernel
theorem dL_law_415 : decode cL_law 415 = .ok (.iaload, 1) := by decide +kernel
theorem dL_law_416 : decode cL_law 416 = .ok (.aload_n 0, 1) := by decide +kernel
theorem dL_law_417 : decode cL_law 417 = .ok (.iload_n 3, 1) := by decide +kernel
theorem dL_law_418 : decode cL_law 418 = .ok (.iconst 2, 1) := by decide +kernel
theorem dL_law_419 : decode cL_law 419 = .ok (.iadd, 1) := by decide +kernel
theorem dL_law_420 : decode cL_law 420 = .ok (.iaload, 1) := by decide +kernel
theorem dL_law_421 : decode cL_law 421 = .ok (.invokevirtual 52, 3) := by decide +kernel
theorem dL_law_424 : decode cL_law 424 = .ok (.aload_n 2, 1) := by decide +kernel
theorem dL_law_425 : decode cL_law 425 = .ok (.aload_n 0, 1) := by decide +kernel
theorem dL_law_426 : decode cL_law 426 = .ok (.iload_n 3, 1) := by decide +kernel
theorem dL_law_427 : decode cL_law 427 = .ok (.iconst 1, 1) := by decide +kernel
theorem dL_law_428 : decode cL_law 428 = .ok (.iadd, 1) := by decide +kernel
theorem dL_law_429 : decode cL_law 429 = .ok (.iaload, 1) := by decide +kernel
theorem dL_law_430 : decode cL_law 430 = .ok (.aload_n 0, 1) := by decide +kernel
theorem dL_law_431 : decode cL_law 431 = .ok (.iload_n 3, 1) := by decide +kernel
theorem dL_law_432 : decode cL_law 432 = .ok (.iconst 2, 1) := by decide +kernel
theorem dL_law_433 : decode cL_law 433 = .ok (.iadd, 1) := by decide +kernel
theorem dL_law_434 : decode cL_law 434 = .ok (.iaload, 1) := by decide +kernel
theorem dL_law_435 : decode cL_law 435 = .ok (.invokevirtual 55, 3) := by decide +kernel
theorem dL_law_438 : decode cL_law 438 = .ok (.if_icmp .eq 873, 3) := by decide +kernel
theorem dL_law_441 : decode cL_law 441 = .ok (.iconst 0, 1) := by decide +kernel
theorem dL_law_442 : decode cL_law 442 = .ok (.ireturn, 1) := by decide +kernel
theorem dL_law_443 : decode cL_law 443 = .ok (.aload_n 1, 1) := by decide +kernel
theorem dL_law_444 : decode cL_law 444 = .ok (.aload_n 0, 1) := by decide +kernel
theorem dL_law_445 : decode cL_law 445 = .ok (.iload_n 3, 1) := by decide +kernel
theorem dL_law_446 : decode cL_law 446 = .ok (.iconst 1, 1) := by decide +kernel
theorem dL_law_447 : decode cL_law 447 = .ok (.iadd, 1) := by decide +kernel
theorem dL_law_448 : decode cL_law 448 = .ok (.iaload, 1) := by decide +kernel
theorem dL_law_449 : decode cL_law 449 = .ok (.aload_n 0, 1) := by decide +kernel
theorem dL_law_450 : decode cL_law 450 = .ok (.iload_n 3, 1) := by decide +kernel
theorem dL_law_451 : decode cL_law 451 = .ok (.iconst 2, 1) := by decide +kernel
theorem dL_law_452 : decode cL_law 452 = .ok (.iadd, 1) := by decide +kernel
theorem dL_law_453 : decode cL_law 453 = .ok (.iaload, 1) := by decide +kernel
theorem dL_law_454 : decode cL_law 454 = .ok (.aload_n 0, 1) := by decide +kernel
theorem dL_law_455 : decode cL_law 455 = .ok (.iload_n 3, 1) := by decide +kernel
theorem dL_law_456 : decode cL_law 456 = .ok (.iconst 3, 1) := by decide +kernel
theorem dL_law_457 : decode cL_law 457 = .ok (.iadd, 1) := by decide +kernel
theorem dL_law_458 : decode cL_law 458 = .ok (.iaload, 1) := by decide +kernel
theorem dL_law_459 : decode cL_law 459 = .ok (.invokevirtual 56, 3) := by decide +kernel
theorem dL_law_462 : decode cL_law 462 = .ok (.aload_n 2, 1) := by decide +kernel
theorem dL_law_463 : decode cL_law 463 = .ok (.aload_n 0, 1) := by decide +kernel
theorem dL_law_464 : decode cL_law 464 = .ok (.iload_n 3, 1) := by decide +kernel
theorem dL_law_465 : decode cL_law 465 = .ok (.iconst 1, 1) := by decide +kernel
theorem dL_law_466 : decode cL_law 466 = .ok (.iadd, 1) := by decide +kernel
theorem dL_law_467 : decode cL_law 467 = .ok (.iaload, 1) := by decide +kernel
theorem dL_law_468 : decode cL_law 468 = .ok (.aload_n 0, 1) := by decide +kernel
theorem dL_law_469 : decode cL_law 469 = .ok (.iload_n 3, 1) := by decide +kernel
theorem dL_law_470 : decode cL_law 470 = .ok (.iconst 2, 1) := by decide +kernel
theorem dL_law_471 : decode cL_law 471 = .ok (.iadd, 1) := by decide +kernel
theorem dL_law_472 : decode cL_law 472 = .ok (.iaload, 1) := by decide +kernel
theorem dL_law_473 : decode cL_law 473 = .ok (.aload_n 0, 1) := by decide +kernel
theorem dL_law_474 : decode cL_law 474 = .ok (.iload_n 3, 1) := by decide +kernel
theorem dL_law_475 : decode cL_law 475 = .ok (.iconst 3, 1) := by decide +kernel
theorem dL_law_476 : decode cL_law 476 = .ok (.iadd, 1) := by decide +kernel
theorem dL_law_477 : decode cL_law 477 = .ok (.iaload, 1) := by decide +kernel
theorem dL_law_478 : decode cL_law 478 = .ok (.invokevirtual 59, 3) := by decide +kernel
theorem dL_law_481 : decode cL_law 481 = .ok (.if_icmp .eq 830, 3) := by decide +kernel
theorem dL_law_484 : decode cL_law 484 = .ok (.iconst 0, 1) := by decide +kernel
theorem dL_law_485 : decode cL_law 485 = .ok (.ireturn, 1) := by decide +kernel
theorem dL_law_486 : decode cL_law 486 = .ok (.aload_n 1, 1) := by decide +kernel
theorem dL_law_487 : decode cL_law 487 = .ok (.aload_n 0, 1) := by decide +kernel
theorem dL_law_488 : decode cL_law 488 = .ok (.iload_n 3, 1) := by decide +kernel
theorem dL_law_489 : decode cL_law 489 = .ok (.iconst 1, 1) := by decide +kernel
theorem dL_law_490 : decode cL_law 490 = .ok (.iadd, 1) := by decide +kernel
theorem dL_law_491 : decode cL_law 491 = .ok (.iaload, 1) := by decide +kernel
theorem dL_law_492 : decode cL_law 492 = .ok (.invokevirtual 60, 3) := by decide +kernel
theorem dL_law_495 : decode cL_law 495 = .ok (.aload_n 2, 1) := by decide +kernel
theorem dL_law_496 : decode cL_law 496 = .ok (.aload_n 0, 1) := by decide +kernel
theorem dL_law_497 : decode cL_law 497 = .ok (.iload_n 3, 1) := by decide +kernel
theorem dL_law_498 : decode cL_law 498 = .ok (.iconst 1, 1) := by decide +kernel
theorem dL_law_499 : decode cL_law 499 = .ok (.iadd, 1) := by decide +kernel
theorem dL_law_500 : decode cL_law 500 = .ok (.iaload, 1) := by decide +kernel
theorem dL_law_501 : decode cL_law 501 = .ok (.invokevirtual 63, 3) := by decide +kernel
theorem dL_law_504 : decode cL_law 504 = .ok (.if_icmp .eq 807, 3) := by decide +kernel
theorem dL_law_507 : decode cL_law 507 = .ok (.iconst 0, 1) := by decide +kernel
theorem dL_law_508 : decode cL_law 508 = .ok (.ireturn, 1) := by decide +kernel
theorem dL_law_509 : decode cL_law 509 = .ok (.aload_n 1, 1) := by decide +kernel
theorem dL_law_510 : decode cL_law 510 = .ok (.aload_n 0, 1) := by decide +kernel
theorem dL_law_511 : decode cL_law 511 = .ok (.iload_n 3, 1) := by decide +kernel
theorem dL_law_512 : decode cL_law 512 = .ok (.iconst 1, 1) := by decide +kernel
theorem dL_law_513 : decode cL_law 513 = .ok (.iadd, 1) := by decide +kernel
theorem dL_law_514 : decode cL_law 514 = .ok (.iaload, 1) := by decide +kernel
theorem dL_law_515 : decode cL_law 515 = .ok (.invokevirtual 64, 3) := by decide +kernel
theorem dL_law_518 : decode cL_law 518 = .ok (.aload_n 2, 1) := by decide +kernel
theorem dL_law_519 : decode cL_law 519 = .ok (.aload_n 0, 1) := by decide +kernel
theorem dL_law_520 : decode cL_law 520 = .ok (.iload_n 3, 1) := by decide +kernel
theorem dL_law_521 : decode cL_law 521 = .ok (.iconst 1, 1) := by decide +kernel
theorem dL_law_522 : decode cL_law 522 = .ok (.iadd, 1) := by decide +kernel
theorem dL_law_523 : decode cL_law 523 = .ok (.iaload, 1) := by decide +kernel
theorem dL_law_524 : decode cL_law 524 = .ok (.invokevirtual 67, 3) := by decide +kernel
theorem dL_law_527 : decode cL_law 527 = .ok (.if_icmp .eq 784, 3) := by decide +kernel
theorem dL_law_530 : decode cL_law 530 = .ok (.iconst 0, 1) := by decide +kernel
theorem dL_law_531 : decode cL_law 531 = .ok (.ireturn, 1) := by decide +kernel
theorem dL_law_532 : decode cL_law 532 = .ok (.aload_n 1, 1) := by decide +kernel
theorem dL_law_533 : decode cL_law 533 = .ok (.aload_n 0, 1) := by decide +kernel
theorem dL_law_534 : decode cL_law 534 = .ok (.iload_n 3, 1) := by decide +kernel
theorem dL_law_535 : decode cL_law 535 = .ok (.iconst 1, 1) := by decide +kernel
theorem dL_law_536 : decode cL_law 536 = .ok (.iadd, 1) := by decide +kernel
theorem dL_law_537 : decode cL_law 537 = .ok (.iaload, 1) := by decide +kernel
theorem dL_law_538 : decode cL_law 538 = .ok (.aload_n 0, 1) := by decide +kernel
theorem dL_law_539 : decode cL_law 539 = .ok (.iload_n 3, 1) := by decide +kernel
theorem dL_law_540 : decode cL_law 540 = .ok (.iconst 2, 1) := by decide +kernel
theorem dL_law_541 : decode cL_law 541 = .ok (.iadd, 1) := by decide +kernel
theorem dL_law_542 : decode cL_law 542 = .ok (.iaload, 1) := by decide +kernel
theorem dL_law_543 : decode cL_law 543 = .ok (.aload_n 0, 1) := by decide +kernel
theorem dL_law_544 : decode cL_law 544 = .ok (.iload_n 3, 1) := by decide +kernel
theorem dL_law_545 : decode cL_law 545 = .ok (.iconst 3, 1) := by decide +kernel
theorem dL_law_546 : decode cL_law 546 = .ok (.iadd, 1) := by decide +kernel
theorem dL_law_547 : decode cL_law 547 = .ok (.iaload, 1) := by decide +kernel
theorem dL_law_548 : decode cL_law 548 = .ok (.aload_n 0, 1) := by decide +kernel
theorem dL_law_549 : decode cL_law 549 = .ok (.iload_n 3, 1) := by decide +kernel
theorem dL_law_550 : decode cL_law 550 = .ok (.iconst 4, 1) := by decide +kernel
theorem dL_law_551 : decode cL_law 551 = .ok (.iadd, 1) := by decide +kernel
theorem dL_law_552 : decode cL_law 552 = .ok (.iaload, 1) := by decide +kernel
theorem dL_law_553 : decode cL_law 553 = .ok (.invokevirtual 68, 3) := by decide +kernel
theorem dL_law_556 : decode cL_law 556 = .ok (.aload_n 2, 1) := by decide +kernel
theorem dL_law_557 : decode cL_law 557 = .ok (.aload_n 0, 1) := by decide +kernel
theorem dL_law_558 : decode cL_law 558 = .ok (.iload_n 3, 1) := by decide +kernel
theorem dL_law_559 : decode cL_law 559 = .ok (.iconst 1, 1) := by decide +kernel
theorem dL_law_560 : decode cL_law 560 = .ok (.iadd, 1) := by decide +kernel
theorem dL_law_561 : decode cL_law 561 = .ok (.iaload, 1) := by decide +kernel
theorem dL_law_562 : decode cL_law 562 = .ok (.aload_n 0, 1) := by decide +kernel
theorem dL_law_563 : decode cL_law 563 = .ok (.iload_n 3, 1) := by decide +kernel
theorem dL_law_564 : decode cL_law 564 = .ok (.iconst 2, 1) := by decide +kernel
theorem dL_law_565 : decode cL_law 565 = .ok (.iadd, 1) := by decide +kernel
theorem dL_law_566 : decode cL_law 566 = .ok (.iaload, 1) := by decide +kernel
theorem dL_law_567 : decode cL_law 567 = .ok (.aload_n 0, 1) := by decide +kernel
theorem dL_law_568 : decode cL_law 568 = .ok (.iload_n 3, 1) := by decide +kernel
theorem dL_law_569 : decode cL_law 569 = .ok (.iconst 3, 1) := by decide +kernel
theorem dL_law_570 : decode cL_law 570 = .ok (.iadd, 1) := by decide +kernel
theorem dL_law_571 : decode cL_law 571 = .ok (.iaload, 1) := by decide +kernel
theorem dL_law_572 : decode cL_law 572 = .ok (.aload_n 0, 1) := by decide +kernel
theorem dL_law_573 : decode cL_law 573 = .ok (.iload_n 3, 1) := by decide +kernel
theorem dL_law_574 : decode cL_law 574 = .ok (.iconst 4, 1) := by decide +kernel
theorem dL_law_575 : decode cL_law 575 = .ok (.iadd, 1) := by decide +kernel
theorem dL_law_576 : decode cL_law 576 = .ok (.iaload, 1) := by decide +kernel
theorem dL_law_577 : decode cL_law 577 = .ok (.invokevirtual 72, 3) := by decide +kernel
theorem dL_law_580 : decode cL_law 580 = .ok (.if_icmp .eq 731, 3) := by decide +kernel
theorem dL_law_583 : decode cL_law 583 = .ok (.iconst 0, 1) := by decide +kernel
theorem dL_law_584 : decode cL_law 584 = .ok (.ireturn, 1) := by decide +kernel
theorem dL_law_585 : decode cL_law 585 = .ok (.aload_n 1, 1) := by decide +kernel
theorem dL_law_586 : decode cL_law 586 = .ok (.aload_n 0, 1) := by decide +kernel
theorem dL_law_587 : decode cL_law 587 = .ok (.iload_n 3, 1) := by decide +kernel
theorem dL_law_588 : decode cL_law 588 = .ok (.iconst 1, 1) := by decide +kernel
theorem dL_law_589 : decode cL_law 589 = .ok (.iadd, 1) := by decide +kernel
theorem dL_law_590 : decode cL_law 590 = .ok (.iaload, 1) := by decide +kernel
theorem dL_law_591 : decode cL_law 591 = .ok (.aload_n 0, 1) := by decide +kernel
theorem dL_law_592 : decode cL_law 592 = .ok (.iload_n 3, 1) := by decide +kernel
theorem dL_law_593 : decode cL_law 593 = .ok (.iconst 2, 1) := by decide +kernel
theorem dL_law_594 : decode cL_law 594 = .ok (.iadd, 1) := by decide +kernel
theorem dL_law_595 : decode cL_law 595 = .ok (.iaload, 1) := by decide +kernel
theorem dL_law_596 : decode cL_law 596 = .ok (.aload_n 0, 1) := by decide +kernel
theorem dL_law_597 : decode cL_law 597 = .ok (.iload_n 3, 1) := by decide +kernel
theorem dL_law_598 : decode cL_law 598 = .ok (.iconst 3, 1) := by decide +kernel
theorem dL_law_599 : decode cL_law 599 = .ok (.iadd, 1) := by decide +kernel
theorem dL_law_600 : decode cL_law 600 = .ok (.iaload, 1) := by decide +kernel
theorem dL_law_601 : decode cL_law 601 = .ok (.invokevirtual 73, 3) := by decide +kernel
theorem dL_law_604 : decode cL_law 604 = .ok (.aload_n 2, 1) := by decide +kernel
theorem dL_law_605 : decode cL_law 605 = .ok (.aload_n 0, 1) := by decide +kernel
theorem dL_law_606 : decode cL_law 606 = .ok (.iload_n 3, 1) := by decide +kernel
theorem dL_law_607 : decode cL_law 607 = .ok (.iconst 1, 1) := by decide +kernel
theorem dL_law_608 : decode cL_law 608 = .ok (.iadd, 1) := by decide +kernel
theorem dL_law_609 : decode cL_law 609 = .ok (.iaload, 1) := by decide +kernel
theorem dL_law_610 : decode cL_law 610 = .ok (.aload_n 0, 1) := by decide +kernel
theorem dL_law_611 : decode cL_law 611 = .ok (.iload_n 3, 1) := by decide +kernel
theorem dL_law_612 : decode cL_law 612 = .ok (.iconst 2, 1) := by decide +kernel
theorem dL_law_613 : decode cL_law 613 = .ok (.iadd, 1) := by decide +kernel
theorem dL_law_614 : decode cL_law 614 = .ok (.iaload, 1) := by decide +kernel
theorem dL_law_615 : decode cL_law 615 = .ok (.aload_n 0, 1) := by decide +kernel
theorem dL_law_616 : decode cL_law 616 = .ok (.iload_n 3, 1) := by decide +kernel
theorem dL_law_617 : decode cL_law 617 = .ok (.iconst 3, 1) := by decide +kernel
theorem dL_law_618 : decode cL_law 618 = .ok (.iadd, 1) := by decide +kernel
theorem dL_law_619 : decode cL_law 619 = .ok (.iaload, 1) := by decide +kernel
theorem dL_law_620 : decode cL_law 620 = .ok (.invokevirtual 76, 3) := by decide +kernel
theorem dL_law_623 : decode cL_law 623 = .ok (.if_icmp .eq 688, 3) := by decide +kernel
theorem dL_law_626 : decode cL_law 626 = .ok (.iconst 0, 1) := by decide +kernel
theorem dL_law_627 : decode cL_law 627 = .ok (.ireturn, 1) := by decide +kernel
theorem dL_law_628 : decode cL_law 628 = .ok (.aload_n 1, 1) := by decide +kernel
theorem dL_law_629 : decode cL_law 629 = .ok (.aload_n 0, 1) := by decide +kernel
theorem dL_law_630 : decode cL_law 630 = .ok (.iload_n 3, 1) := by decide +kernel
theorem dL_law_631 : decode cL_law 631 = .ok (.iconst 1, 1) := by decide +kernel
theorem dL_law_632 : decode cL_law 632 = .ok (.iadd, 1) := by decide +kernel
theorem dL_law_633 : decode cL_law 633 = .ok (.iaload, 1) := by decide +kernel
theorem dL_law_634 : decode cL_law 634 = .ok (.aload_n 0, 1) := by decide +kernel
theorem dL_law_635 : decode cL_law 635 = .ok (.iload_n 3, 1) := by decide +kernel
theorem dL_law_636 : decode cL_law 636 = .ok (.iconst 2, 1) := by decide +kernel
theorem dL_law_637 : decode cL_law 637 = .ok (.iadd, 1) := by decide +kernel
theorem dL_law_638 : decode cL_law 638 = .ok (.iaload, 1) := by decide +kernel
theorem dL_law_639 : decode cL_law 639 = .ok (.aload_n 0, 1) := by decide +kernel
theorem dL_law_640 : decode cL_law 640 = .ok (.iload_n 3, 1) := by decide +kernel
theorem dL_law_641 : decode cL_law 641 = .ok (.iconst 3, 1) := by decide +kernel
theorem dL_law_642 : decode cL_law 642 = .ok (.iadd, 1) := by decide +kernel
theorem dL_law_643 : decode cL_law 643 = .ok (.iaload, 1) := by decide +kernel
theorem dL_law_644 : decode cL_law 644 = .ok (.aload_n 0, 1) := by decide +kernel
theorem dL_law_645 : decode cL_law 645 = .ok (.iload_n 3, 1) := by decide +kernel
theorem dL_law_646 : decode cL_law 646 = .ok (.iconst 4, 1) := by decide +kernel
theorem dL_law_647 : decode cL_law 647 = .ok (.iadd, 1) := by decide +kernel
theorem dL_law_648 : decode cL_law 648 = .ok (.iaload, 1) := by decide +kernel
theorem dL_law_649 : decode cL_law 649 = .ok (.aload_n 0, 1) := by decide +kernel
theorem dL_law_650 : decode cL_law 650 = .ok (.iload_n 3, 1) := by decide +kernel
theorem dL_law_651 : decode cL_law 651 = .ok (.iconst 5, 1) := by decide +kernel
theorem dL_law_652 : decode cL_law 652 = .ok (.iadd, 1) := by decide +kernel
theorem dL_law_653 : decode cL_law 653 = .ok (.iaload, 1) := by decide +kernel
theorem dL_law_654 : decode cL_law 654 = .ok (.invokevirtual 77, 3) := by decide +kernel
theorem dL_law_657 : decode cL_law 657 = .ok (.aload_n 2, 1) := by decide +kernel
theorem dL_law_658 : decode cL_law 658 = .ok (.aload_n 0, 1) := by decide +kernel
theorem dL_law_659 : decode cL_law 659 = .ok (.iload_n 3, 1) := by decide +kernel
theorem dL_law_660 : decode cL_law 660 = .ok (.iconst 1, 1) := by decide +kernel
theorem dL_law_661 : decode cL_law 661 = .ok (.iadd, 1) := by decide +kernel
theorem dL_law_662 : decode cL_law 662 = .ok (.iaload, 1) := by decide +kernel
theorem dL_law_663 : decode cL_law 663 = .ok (.aload_n 0, 1) := by decide +kernel
theorem dL_law_664 : decode cL_law 664 = .ok (.iload_n 3, 1) := by decide +kernel
theorem dL_law_665 : decode cL_law 665 = .ok (.iconst 2, 1) := by decide +kernel
theorem dL_law_666 : decode cL_law 666 = .ok (.iadd, 1) := by decide +kernel
theorem dL_law_667 : decode cL_law 667 = .ok (.iaload, 1) := by decide +kernel
theorem dL_law_668 : decode cL_law 668 = .ok (.aload_n 0, 1) := by decide +kernel
theorem dL_law_669 : decode cL_law 669 = .ok (.iload_n 3, 1) := by decide +kernel
theorem dL_law_670 : decode cL_law 670 = .ok (.iconst 3, 1) := by decide +kernel
theorem dL_law_671 : decode cL_law 671 = .ok (.iadd, 1) := by decide +kernel
theorem dL_law_672 : decode cL_law 672 = .ok (.iaload, 1) := by decide +kernel
theorem dL_law_673 : decode cL_law 673 = .ok (.aload_n 0, 1) := by decide +kernel
theorem dL_law_674 : decode cL_law 674 = .ok (.iload_n 3, 1) := by decide +kernel
theorem dL_law_675 : decode cL_law 675 = .ok (.iconst 4, 1) := by decide +kernel
theorem dL_law_676 : decode cL_law 676 = .ok (.iadd, 1) := by decide +kernel
theorem dL_law_677 : decode cL_law 677 = .ok (.iaload, 1) := by decide +kernel
theorem dL_law_678 : decode cL_law 678 = .ok (.aload_n 0, 1) := by decide +kernel
theorem dL_law_679 : decode cL_law 679 = .ok (.iload_n 3, 1) := by decide +kernel
theorem dL_law_680 : decode cL_law 680 = .ok (.iconst 5, 1) := by decide +kernel
theorem dL_law_681 : decode cL_law 681 = .ok (.iadd, 1) := by decide +kernel
theorem dL_law_682 : decode cL_law 682 = .ok (.iaload, 1) := by decide +kernel
theorem dL_law_683 : decode cL_law 683 = .ok (.invokevirtual 81, 3) := by decide +kernel
theorem dL_law_686 : decode cL_law 686 = .ok (.if_icmp .eq 625, 3) := by decide +kernel
theorem dL_law_689 : decode cL_law 689 = .ok (.iconst 0, 1) := by decide +kernel
theorem dL_law_690 : decode cL_law 690 = .ok (.ireturn, 1) := by decide +kernel
theorem dL_law_691 : decode cL_law 691 = .ok (.aload_n 1, 1) := by decide +kernel
theorem dL_law_692 : decode cL_law 692 = .ok (.aload_n 0, 1) := by decide +kernel
theorem dL_law_693 : decode cL_law 693 = .ok (.iload_n 3, 1) := by decide +kernel
theorem dL_law_694 : decode cL_law 694 = .ok (.iconst 1, 1) := by decide +kernel
theorem dL_law_695 : decode cL_law 695 = .ok (.iadd, 1) := by decide +kernel
theorem dL_law_696 : decode cL_law 696 = .ok (.iaload, 1) := by decide +kernel
theorem dL_law_697 : decode cL_law 697 = .ok (.aload_n 0, 1) := by decide +kernel
theorem dL_law_698 : decode cL_law 698 = .ok (.iload_n 3, 1) := by decide +kernel
theorem dL_law_699 : decode cL_law 699 = .ok (.iconst 2, 1) := by decide +kernel
theorem dL_law_700 : decode cL_law 700 = .ok (.iadd, 1) := by decide +kernel
theorem dL_law_701 : decode cL_law 701 = .ok (.iaload, 1) := by decide +kernel
theorem dL_law_702 : decode cL_law 702 = .ok (.aload_n 0, 1) := by decide +kernel
theorem dL_law_703 : decode cL_law 703 = .ok (.iload_n 3, 1) := by decide +kernel
theorem dL_law_704 : decode cL_law 704 = .ok (.iconst 3, 1) := by decide +kernel
theorem dL_law_705 : decode cL_law 705 = .ok (.iadd, 1) := by decide +kernel
theorem dL_law_706 : decode cL_law 706 = .ok (.iaload, 1) := by decide +kernel
theorem dL_law_707 : decode cL_law 707 = .ok (.invokevirtual 82, 3) := by decide +kernel
theorem dL_law_710 : decode cL_law 710 = .ok (.aload_n 2, 1) := by decide +kernel
theorem dL_law_711 : decode cL_law 711 = .ok (.aload_n 0, 1) := by decide +kernel
theorem dL_law_712 : decode cL_law 712 = .ok (.iload_n 3, 1) := by decide +kernel
theorem dL_law_713 : decode cL_law 713 = .ok (.iconst 1, 1) := by decide +kernel
theorem dL_law_714 : decode cL_law 714 = .ok (.iadd, 1) := by decide +kernel
theorem dL_law_715 : decode cL_law 715 = .ok (.iaload, 1) := by decide +kernel
theorem dL_law_716 : decode cL_law 716 = .ok (.aload_n 0, 1) := by decide +kernel
theorem dL_law_717 : decode cL_law 717 = .ok (.iload_n 3, 1) := by decide +kernel
theorem dL_law_718 : decode cL_law 718 = .ok (.iconst 2, 1) := by decide +kernel
theorem dL_law_719 : decode cL_law 719 = .ok (.iadd, 1) := by decide +kernel
theorem dL_law_720 : decode cL_law 720 = .ok (.iaload, 1) := by decide +kernel
theorem dL_law_721 : decode cL_law 721 = .ok (.aload_n 0, 1) := by decide +kernel
theorem dL_law_722 : decode cL_law 722 = .ok (.iload_n 3, 1) := by decide +kernel
theorem dL_law_723 : decode cL_law 723 = .ok (.iconst 3, 1) := by decide +kernel
theorem dL_law_724 : decode cL_law 724 = .ok (.iadd, 1) := by decide +kernel
theorem dL_law_725 : decode cL_law 725 = .ok (.iaload, 1) := by decide +kernel
theorem dL_law_726 : decode cL_law 726 = .ok (.invokevirtual 85, 3) := by decide +kernel
theorem dL_law_729 : decode cL_law 729 = .ok (.if_icmp .eq 582, 3) := by decide +kernel
theorem dL_law_732 : decode cL_law 732 = .ok (.iconst 0, 1) := by decide +kernel
theorem dL_law_733 : decode cL_law 733 = .ok (.ireturn, 1) := by decide +kernel
theorem dL_law_734 : decode cL_law 734 = .ok (.aload_n 1, 1) := by decide +kernel
theorem dL_law_735 : decode cL_law 735 = .ok (.invokevirtual 86, 3) := by decide +kernel
theorem dL_law_738 : decode cL_law 738 = .ok (.aload_n 2, 1) := by decide +kernel
theorem dL_law_739 : decode cL_law 739 = .ok (.invokevirtual 89, 3) := by decide +kernel
theorem dL_law_742 : decode cL_law 742 = .ok (.if_icmp .eq 569, 3) := by decide +kernel
theorem dL_law_745 : decode cL_law 745 = .ok (.iconst 0, 1) := by decide +kernel
theorem dL_law_746 : decode cL_law 746 = .ok (.ireturn, 1) := by decide +kernel
theorem dL_law_747 : decode cL_law 747 = .ok (.aload_n 1, 1) := by decide +kernel
theorem dL_law_748 : decode cL_law 748 = .ok (.invokevirtual 90, 3) := by decide +kernel
theorem dL_law_751 : decode cL_law 751 = .ok (.aload_n 2, 1) := by decide +kernel
theorem dL_law_752 : decode cL_law 752 = .ok (.invokevirtual 93, 3) := by decide +kernel
theorem dL_law_755 : decode cL_law 755 = .ok (.if_icmp .eq 556, 3) := by decide +kernel
theorem dL_law_758 : decode cL_law 758 = .ok (.iconst 0, 1) := by decide +kernel
theorem dL_law_759 : decode cL_law 759 = .ok (.ireturn, 1) := by decide +kernel
theorem dL_law_760 : decode cL_law 760 = .ok (.aload_n 1, 1) := by decide +kernel
theorem dL_law_761 : decode cL_law 761 = .ok (.aload_n 0, 1) := by decide +kernel
theorem dL_law_762 : decode cL_law 762 = .ok (.iload_n 3, 1) := by decide +kernel
theorem dL_law_763 : decode cL_law 763 = .ok (.iconst 1, 1) := by decide +kernel
theorem dL_law_764 : decode cL_law 764 = .ok (.iadd, 1) := by decide +kernel
theorem dL_law_765 : decode cL_law 765 = .ok (.iaload, 1) := by decide +kernel
theorem dL_law_766 : decode cL_law 766 = .ok (.aload_n 0, 1) := by decide +kernel
theorem dL_law_767 : decode cL_law 767 = .ok (.iload_n 3, 1) := by decide +kernel
theorem dL_law_768 : decode cL_law 768 = .ok (.iconst 2, 1) := by decide +kernel
theorem dL_law_769 : decode cL_law 769 = .ok (.iadd, 1) := by decide +kernel
theorem dL_law_770 : decode cL_law 770 = .ok (.iaload, 1) := by decide +kernel
theorem dL_law_771 : decode cL_law 771 = .ok (.aload_n 0, 1) := by decide +kernel
theorem dL_law_772 : decode cL_law 772 = .ok (.iload_n 3, 1) := by decide +kernel
theorem dL_law_773 : decode cL_law 773 = .ok (.iconst 3, 1) := by decide +kernel
theorem dL_law_774 : decode cL_law 774 = .ok (.iadd, 1) := by decide +kernel
theorem dL_law_775 : decode cL_law 775 = .ok (.iaload, 1) := by decide +kernel
theorem dL_law_776 : decode cL_law 776 = .ok (.aload_n 0, 1) := by decide +kernel
theorem dL_law_777 : decode cL_law 777 = .ok (.iload_n 3, 1) := by decide +kernel
theorem dL_law_778 : decode cL_law 778 = .ok (.iconst 4, 1) := by decide +kernel
theorem dL_law_779 : decode cL_law 779 = .ok (.iadd, 1) := by decide +kernel
theorem dL_law_780 : decode cL_law 780 = .ok (.iaload, 1) := by decide +kernel
theorem dL_law_781 : decode cL_law 781 = .ok (.aload_n 0, 1) := by decide +kernel
theorem dL_law_782 : decode cL_law 782 = .ok (.iload_n 3, 1) := by decide +kernel
theorem dL_law_783 : decode cL_law 783 = .ok (.iconst 5, 1) := by decide +kernel
theorem dL_law_784 : decode cL_law 784 = .ok (.iadd, 1) := by decide +kernel
theorem dL_law_785 : decode cL_law 785 = .ok (.iaload, 1) := by decide +kernel
theorem dL_law_786 : decode cL_law 786 = .ok (.invokevirtual 94, 3) := by decide +kernel
theorem dL_law_789 : decode cL_law 789 = .ok (.aload_n 2, 1) := by decide +kernel
theorem dL_law_790 : decode cL_law 790 = .ok (.aload_n 0, 1) := by decide +kernel
theorem dL_law_791 : decode cL_law 791 = .ok (.iload_n 3, 1) := by decide +kernel
theorem dL_law_792 : decode cL_law 792 = .ok (.iconst 1, 1) := by decide +kernel
theorem dL_law_793 : decode cL_law 793 = .ok (.iadd, 1) := by decide +kernel
theorem dL_law_794 : decode cL_law 794 = .ok (.iaload, 1) := by decide +kernel
theorem dL_law_795 : decode cL_law 795 = .ok (.aload_n 0, 1) := by decide +kernel
theorem dL_law_796 : decode cL_law 796 = .ok (.iload_n 3, 1) := by decide +kernel
theorem dL_law_797 : decode cL_law 797 = .ok (.iconst 2, 1) := by decide +kernel
theorem dL_law_798 : decode cL_law 798 = .ok (.iadd, 1) := by decide +kernel
theorem dL_law_799 : decode cL_law 799 = .ok (.iaload, 1) := by decide +kernel
theorem dL_law_800 : decode cL_law 800 = .ok (.aload_n 0, 1) := by decide +kernel
theorem dL_law_801 : decode cL_law 801 = .ok (.iload_n 3, 1) := by decide +kernel
theorem dL_law_802 : decode cL_law 802 = .ok (.iconst 3, 1) := by decide +kernel
theorem dL_law_803 : decode cL_law 803 = .ok (.iadd, 1) := by decide +kernel
theorem dL_law_804 : decode cL_law 804 = .ok (.iaload, 1) := by decide +kernel
theorem dL_law_805 : decode cL_law 805 = .ok (.aload_n 0, 1) := by decide +kernel
theorem dL_law_806 : decode cL_law 806 = .ok (.iload_n 3, 1) := by decide +kernel
theorem dL_law_807 : decode cL_law 807 = .ok (.iconst 4, 1) := by decide +kernel
theorem dL_law_808 : decode cL_law 808 = .ok (.iadd, 1) := by decide +kernel
theorem dL_law_809 : decode cL_law 809 = .ok (.iaload, 1) := by decide +kernel
theorem dL_law_810 : decode cL_law 810 = .ok (.aload_n 0, 1) := by decide +kernel
theorem dL_law_811 : decode cL_law 811 = .ok (.iload_n 3, 1) := by decide +kernel
theorem dL_law_812 : decode cL_law 812 = .ok (.iconst 5, 1) := by decide +kernel
theorem dL_law_813 : decode cL_law 813 = .ok (.iadd, 1) := by decide +kernel
theorem dL_law_814 : decode cL_law 814 = .ok (.iaload, 1) := by decide +kernel
theorem dL_law_815 : decode cL_law 815 = .ok (.invokevirtual 97, 3) := by decide +kernel
theorem dL_law_818 : decode cL_law 818 = .ok (.if_icmp .eq 493, 3) := by decide +kernel
theorem dL_law_821 : decode cL_law 821 = .ok (.iconst 0, 1) := by decide +kernel
theorem dL_law_822 : decode cL_law 822 = .ok (.ireturn, 1) := by decide +kernel
theorem dL_law_823 : decode cL_law 823 = .ok (.aload_n 1, 1) := by decide +kernel
theorem dL_law_824 : decode cL_law 824 = .ok (.aload_n 0, 1) := by decide +kernel
theorem dL_law_825 : decode cL_law 825 = .ok (.iload_n 3, 1) := by decide +kernel
theorem dL_law_826 : decode cL_law 826 = .ok (.iconst 1, 1) := by decide +kernel
theorem dL_law_827 : decode cL_law 827 = .ok (.iadd, 1) := by decide +kernel
theorem dL_law_828 : decode cL_law 828 = .ok (.iaload, 1) := by decide +kernel
theorem dL_law_829 : decode cL_law 829 = .ok (.aload_n 0, 1) := by decide +kernel
theorem dL_law_830 : decode cL_law 830 = .ok (.iload_n 3, 1) := by decide +kernel
theorem dL_law_831 : decode cL_law 831 = .ok (.iconst 2, 1) := by decide +kernel
theorem dL_law_832 : decode cL_law 832 = .ok (.iadd, 1) := by decide +kernel
theorem dL_law_833 : decode cL_law 833 = .ok (.iaload, 1) := by decide +kernel
theorem dL_law_834 : decode cL_law 834 = .ok (.aload_n 0, 1) := by decide +kernel
theorem dL_law_835 : decode cL_law 835 = .ok (.iload_n 3, 1) := by decide +kernel
theorem dL_law_836 : decode cL_law 836 = .ok (.iconst 3, 1) := by decide +kernel
theorem dL_law_837 : decode cL_law 837 = .ok (.iadd, 1) := by decide +kernel
theorem dL_law_838 : decode cL_law 838 = .ok (.iaload, 1) := by decide +kernel
theorem dL_law_839 : decode cL_law 839 = .ok (.aload_n 0, 1) := by decide +kernel
theorem dL_law_840 : decode cL_law 840 = .ok (.iload_n 3, 1) := by decide +kernel
theorem dL_law_841 : decode cL_law 841 = .ok (.iconst 4, 1) := by decide +kernel
theorem dL_law_842 : decode cL_law 842 = .ok (.iadd, 1) := by decide +kernel
theorem dL_law_843 : decode cL_law 843 = .ok (.iaload, 1) := by decide +kernel
theorem dL_law_844 : decode cL_law 844 = .ok (.aload_n 0, 1) := by decide +kernel
theorem dL_law_845 : decode cL_law 845 = .ok (.iload_n 3, 1) := by decide +kernel
theorem dL_law_846 : decode cL_law 846 = .ok (.iconst 5, 1) := by decide +kernel
theorem dL_law_847 : decode cL_law 847 = .ok (.iadd, 1) := by decide +kernel
theorem dL_law_848 : decode cL_law 848 = .ok (.iaload, 1) := by decide +kernel
theorem dL_law_849 : decode cL_law 849 = .ok (.invokevirtual 98, 3) := by decide +kernel
theorem dL_law_852 : decode cL_law 852 = .ok (.aload_n 2, 1) := by decide +kernel
theorem dL_law_853 : decode cL_law 853 = .ok (.aload_n 0, 1) := by decide +kernel
theorem dL_law_854 : decode cL_law 854 = .ok (.iload_n 3, 1) := by decide +kernel
theorem dL_law_855 : decode cL_law 855 = .ok (.iconst 1, 1) := by decide +kernel
theorem dL_law_856 : decode cL_law 856 = .ok (.iadd, 1) := by decide +kernel
theorem dL_law_857 : decode cL_law 857 = .ok (.iaload, 1) := by decide +kernel
theorem dL_law_858 : decode cL_law 858 = .ok (.aload_n 0, 1) := by decide +kernel
theorem dL_law_859 : decode cL_law 859 = .ok (.iload_n 3, 1) := by decide +kernel
theorem dL_law_860 : decode cL_law 860 = .ok (.iconst 2, 1) := by decide +kernel
theorem dL_law_861 : decode cL_law 861 = .ok (.iadd, 1) := by decide +kernel
theorem dL_law_862 : decode cL_law 862 = .ok (.iaload, 1) := by decide +kernel
theorem dL_law_863 : decode cL_law 863 = .ok (.aload_n 0, 1) := by decide +kernel
theorem dL_law_864 : decode cL_law 864 = .ok (.iload_n 3, 1) := by decide +kernel
theorem dL_law_865 : decode cL_law 865 = .ok (.iconst 3, 1) := by decide +kernel
theorem dL_law_866 : decode cL_law 866 = .ok (.iadd, 1) := by decide +kernel
theorem dL_law_867 : decode cL_law 867 = .ok (.iaload, 1) := by decide +kernel
theorem dL_law_868 : decode cL_law 868 = .ok (.aload_n 0, 1) := by decide +kernel
theorem dL_law_869 : decode cL_law 869 = .ok (.iload_n 3, 1) := by decide +kernel
theorem dL_law_870 : decode cL_law 870 = .ok (.iconst 4, 1) := by decide +kernel
theorem dL_law_871 : decode cL_law 871 = .ok (.iadd, 1) := by decide +kernel
theorem dL_law_872 : decode cL_law 872 = .ok (.iaload, 1) := by decide +kernel
theorem dL_law_873 : decode cL_law 873 = .ok (.aload_n 0, 1) := by decide +kernel
theorem dL_law_874 : decode cL_law 874 = .ok (.iload_n 3, 1) := by decide +kernel
theorem dL_law_875 : decode cL_law 875 = .ok (.iconst 5, 1) := by decide +kernel
theorem dL_law_876 : decode cL_law 876 = .ok (.iadd, 1) := by decide +kernel
theorem dL_law_877 : decode cL_law 877 = .ok (.iaload, 1) := by decide +kernel
theorem dL_law_878 : decode cL_law 878 = .ok (.invokevirtual 101, 3) := by decide +kernel
theorem dL_law_881 : decode cL_law 881 = .ok (.if_icmp .eq 430, 3) := by decide +kernel
theorem dL_law_884 : decode cL_law 884 = .ok (.iconst 0, 1) := by decide +kernel
theorem dL_law_885 : decode cL_law 885 = .ok (.ireturn, 1) := by decide +kernel
theorem dL_law_886 : decode cL_law 886 = .ok (.aload_n 1, 1) := by decide +kernel
theorem dL_law_887 : decode cL_law 887 = .ok (.aload_n 0, 1) := by decide +kernel
theorem dL_law_888 : decode cL_law 888 = .ok (.iload_n 3, 1) := by decide +kernel
theorem dL_law_889 : decode cL_law 889 = .ok (.iconst 1, 1) := by decide +kernel
theorem dL_law_890 : decode cL_law 890 = .ok (.iadd, 1) := by decide +kernel
theorem dL_law_891 : decode cL_law 891 = .ok (.iaload, 1) := by decide +kernel
theorem dL_law_892 : decode cL_law 892 = .ok (.aload_n 0, 1) := by decide +kernel
theorem dL_law_893 : decode cL_law 893 = .ok (.iload_n 3, 1) := by decide +kernel
theorem dL_law_894 : decode cL_law 894 = .ok (.iconst 2, 1) := by decide +kernel
theorem dL_law_895 : decode cL_law 895 = .ok (.iadd, 1) := by decide +kernel
theorem dL_law_896 : decode cL_law 896 = .ok (.iaload, 1) := by decide +kernel
theorem dL_law_897 : decode cL_law 897 = .ok (.aload_n 0, 1) := by decide +kernel
theorem dL_law_898 : decode cL_law 898 = .ok (.iload_n 3, 1) := by decide +kernel
theorem dL_law_899 : decode cL_law 899 = .ok (.iconst 3, 1) := by decide +kernel
theorem dL_law_900 : decode cL_law 900 = .ok (.iadd, 1) := by decide +kernel
theorem dL_law_901 : decode cL_law 901 = .ok (.iaload, 1) := by decide +kernel
theorem dL_law_902 : decode cL_law 902 = .ok (.aload_n 0, 1) := by decide +kernel
theorem dL_law_903 : decode cL_law 903 = .ok (.iload_n 3, 1) := by decide +kernel
theorem dL_law_904 : decode cL_law 904 = .ok (.iconst 4, 1) := by decide +kernel
theorem dL_law_905 : decode cL_law 905 = .ok (.iadd, 1) := by decide +kernel
theorem dL_law_906 : decode cL_law 906 = .ok (.iaload, 1) := by decide +kernel
theorem dL_law_907 : decode cL_law 907 = .ok (.aload_n 0, 1) := by decide +kernel
theorem dL_law_908 : decode cL_law 908 = .ok (.iload_n 3, 1) := by decide +kernel
theorem dL_law_909 : decode cL_law 909 = .ok (.iconst 5, 1) := by decide +kernel
theorem dL_law_910 : decode cL_law 910 = .ok (.iadd, 1) := by decide +kernel
theorem dL_law_911 : decode cL_law 911 = .ok (.iaload, 1) := by decide +kernel
theorem dL_law_912 : decode cL_law 912 = .ok (.invokevirtual 102, 3) := by decide +kernel
theorem dL_law_915 : decode cL_law 915 = .ok (.aload_n 2, 1) := by decide +kernel
theorem dL_law_916 : decode cL_law 916 = .ok (.aload_n 0, 1) := by decide +kernel
theorem dL_law_917 : decode cL_law 917 = .ok (.iload_n 3, 1) := by decide +kernel
theorem dL_law_918 : decode cL_law 918 = .ok (.iconst 1, 1) := by decide +kernel
theorem dL_law_919 : decode cL_law 919 = .ok (.iadd, 1) := by decide +kernel
theorem dL_law_920 : decode cL_law 920 = .ok (.iaload, 1) := by decide +kernel
theorem dL_law_921 : decode cL_law 921 = .ok (.aload_n 0, 1) := by decide +kernel
theorem dL_law_922 : decode cL_law 922 = .ok (.iload_n 3, 1) := by decide +kernel
theorem dL_law_923 : decode cL_law 923 = .ok (.iconst 2, 1) := by decide +kernel
theorem dL_law_924 : decode cL_law 924 = .ok (.iadd, 1) := by decide +kernel
theorem dL_law_925 : decode cL_law 925 = .ok (.iaload, 1) := by decide +kernel
theorem dL_law_926 : decode cL_law 926 = .ok (.aload_n 0, 1) := by decide +kernel
theorem dL_law_927 : decode cL_law 927 = .ok (.iload_n 3, 1) := by decide +kernel
theorem dL_law_928 : decode cL_law 928 = .ok (.iconst 3, 1) := by decide +kernel
theorem dL_law_929 : decode cL_law 929 = .ok (.iadd, 1) := by decide +kernel
theorem dL_law_930 : decode cL_law 930 = .ok (.iaload, 1) := by decide +kernel
theorem dL_law_931 : decode cL_law 931 = .ok (.aload_n 0, 1) := by decide +kernel
theorem dL_law_932 : decode cL_law 932 = .ok (.iload_n 3, 1) := by decide +kernel
theorem dL_law_933 : decode cL_law 933 = .ok (.iconst 4, 1) := by decide +kernel
theorem dL_law_934 : decode cL_law 934 = .ok (.iadd, 1) := by decide +kernel
theorem dL_law_935 : decode cL_law 935 = .ok (.iaload, 1) := by decide +kernel
theorem dL_law_936 : decode cL_law 936 = .ok (.aload_n 0, 1) := by decide +kernel
theorem dL_law_937 : decode cL_law 937 = .ok (.iload_n 3, 1) := by decide +kernel
theorem dL_law_938 : decode cL_law 938 = .ok (.iconst 5, 1) := by decide +kernel
theorem dL_law_939 : decode cL_law 939 = .ok (.iadd, 1) := by decide +kernel
theorem dL_law_940 : decode cL_law 940 = .ok (.iaload, 1) := by decide +kernel
theorem dL_law_941 : decode cL_law 941 = .ok (.invokevirtual 105, 3) := by decide +kernel
theorem dL_law_944 : decode cL_law 944 = .ok (.if_icmp .eq 367, 3) := by decide +kernel
theorem dL_law_947 : decode cL_law 947 = .ok (.iconst 0, 1) := by decide +kernel
theorem dL_law_948 : decode cL_law 948 = .ok (.ireturn, 1) := by decide +kernel
theorem dL_law_949 : decode cL_law 949 = .ok (.aload_n 1, 1) := by decide +kernel
theorem dL_law_950 : decode cL_law 950 = .ok (.aload_n 0, 1) := by decide +kernel
theorem dL_law_951 : decode cL_law 951 = .ok (.iload_n 3, 1) := by decide +kernel
theorem dL_law_952 : decode cL_law 952 = .ok (.iconst 1, 1) := by decide +kernel
theorem dL_law_953 : decode cL_law 953 = .ok (.iadd, 1) := by decide +kernel
theorem dL_law_954 : decode cL_law 954 = .ok (.iaload, 1) := by decide +kernel
theorem dL_law_955 : decode cL_law 955 = .ok (.aload_n 0, 1) := by decide +kernel
theorem dL_law_956 : decode cL_law 956 = .ok (.iload_n 3, 1) := by decide +kernel
theorem dL_law_957 : decode cL_law 957 = .ok (.iconst 2, 1) := by decide +kernel
theorem dL_law_958 : decode cL_law 958 = .ok (.iadd, 1) := by decide +kernel
theorem dL_law_959 : decode cL_law 959 = .ok (.iaload, 1) := by decide +kernel
theorem dL_law_960 : decode cL_law 960 = .ok (.aload_n 0, 1) := by decide +kernel
theorem dL_law_961 : decode cL_law 961 = .ok (.iload_n 3, 1) := by decide +kernel
theorem dL_law_962 : decode cL_law 962 = .ok (.iconst 3, 1) := by decide +kernel
theorem dL_law_963 : decode cL_law 963 = .ok (.iadd, 1) := by decide +kernel
theorem dL_law_964 : decode cL_law 964 = .ok (.iaload, 1) := by decide +kernel
theorem dL_law_965 : decode cL_law 965 = .ok (.aload_n 0, 1) := by decide +kernel
theorem dL_law_966 : decode cL_law 966 = .ok (.iload_n 3, 1) := by decide +kernel
theorem dL_law_967 : decode cL_law 967 = .ok (.iconst 4, 1) := by decide +kernel
theorem dL_law_968 : decode cL_law 968 = .ok (.iadd, 1) := by decide +kernel
theorem dL_law_969 : decode cL_law 969 = .ok (.iaload, 1) := by decide +kernel
theorem dL_law_970 : decode cL_law 970 = .ok (.aload_n 0, 1) := by decide +kernel
theorem dL_law_971 : decode cL_law 971 = .ok (.iload_n 3, 1) := by decide +kernel
theorem dL_law_972 : decode cL_law 972 = .ok (.iconst 5, 1) := by decide +kernel
theorem dL_law_973 : decode cL_law 973 = .ok (.iadd, 1) := by decide +kernel
theorem dL_law_974 : decode cL_law 974 = .ok (.iaload, 1) := by decide +kernel
theorem dL_law_975 : decode cL_law 975 = .ok (.invokevirtual 106, 3) := by decide +kernel
theorem dL_law_978 : decode cL_law 978 = .ok (.aload_n 2, 1) := by decide +kernel
theorem dL_law_979 : decode cL_law 979 = .ok (.aload_n 0, 1) := by decide +kernel
theorem dL_law_980 : decode cL_law 980 = .ok (.iload_n 3, 1) := by decide +kernel
theorem dL_law_981 : decode cL_law 981 = .ok (.iconst 1, 1) := by decide +kernel
theorem dL_law_982 : decode cL_law 982 = .ok (.iadd, 1) := by decide +kernel
theorem dL_law_983 : decode cL_law 983 = .ok (.iaload, 1) := by decide +kernel
theorem dL_law_984 : decode cL_law 984 = .ok (.aload_n 0, 1) := by decide +kernel
theorem dL_law_985 : decode cL_law 985 = .ok (.iload_n 3, 1) := by decide +kernel
theorem dL_law_986 : decode cL_law 986 = .ok (.iconst 2, 1) := by decide +kernel
theorem dL_law_987 : decode cL_law 987 = .ok (.iadd, 1) := by decide +kernel
theorem dL_law_988 : decode cL_law 988 = .ok (.iaload, 1) := by decide +kernel
theorem dL_law_989 : decode cL_law 989 = .ok (.aload_n 0, 1) := by decide +kernel
theorem dL_law_990 : decode cL_law 990 = .ok (.iload_n 3, 1) := by decide +kernel
theorem dL_law_991 : decode cL_law 991 = .ok (.iconst 3, 1) := by decide +kernel
theorem dL_law_992 : decode cL_law 992 = .ok (.iadd, 1) := by decide +kernel
theorem dL_law_993 : decode cL_law 993 = .ok (.iaload, 1) := by decide +kernel
theorem dL_law_994 : decode cL_law 994 = .ok (.aload_n 0, 1) := by decide +kernel
theorem dL_law_995 : decode cL_law 995 = .ok (.iload_n 3, 1) := by decide +kernel
theorem dL_law_996 : decode cL_law 996 = .ok (.iconst 4, 1) := by decide +kernel
theorem dL_law_997 : decode cL_law 997 = .ok (.iadd, 1) := by decide +kernel
theorem dL_law_998 : decode cL_law 998 = .ok (.iaload, 1) := by decide +kernel
theorem dL_law_999 : decode cL_law 999 = .ok (.aload_n 0, 1) := by decide +kernel
theorem dL_law_1000 : decode cL_law 1000 = .ok (.iload_n 3, 1) := by decide +kernel
theorem dL_law_1001 : decode cL_law 1001 = .ok (.iconst 5, 1) := by decide +kernel
theorem dL_law_1002 : decode cL_law 1002 = .ok (.iadd, 1) := by decide +kernel
theorem dL_law_1003 : decode cL_law 1003 = .ok (.iaload, 1) := by decide +kernel
theorem dL_law_1004 : decode cL_law 1004 = .ok (.invokevirtual 109, 3) := by decide +kernel
theorem dL_law_1007 : decode cL_law 1007 = .ok (.if_icmp .eq 304, 3) := by decide +kernel
theorem dL_law_1010 : decode cL_law 1010 = .ok (.iconst 0, 1) := by decide +kernel
theorem dL_law_1011 : decode cL_law 1011 = .ok (.ireturn, 1) := by decide +kernel
theorem dL_law_1012 : decode cL_law 1012 = .ok (.aload_n 1, 1) := by decide +kernel
theorem dL_law_1013 : decode cL_law 1013 = .ok (.aload_n 0, 1) := by decide +kernel
theorem dL_law_1014 : decode cL_law 1014 = .ok (.iload_n 3, 1) := by decide +kernel
theorem dL_law_1015 : decode cL_law 1015 = .ok (.iconst 1, 1) := by decide +kernel
theorem dL_law_1016 : decode cL_law 1016 = .ok (.iadd, 1) := by decide +kernel
theorem dL_law_1017 : decode cL_law 1017 = .ok (.iaload, 1) := by decide +kernel
theorem dL_law_1018 : decode cL_law 1018 = .ok (.aload_n 0, 1) := by decide +kernel
theorem dL_law_1019 : decode cL_law 1019 = .ok (.iload_n 3, 1) := by decide +kernel
theorem dL_law_1020 : decode cL_law 1020 = .ok (.iconst 2, 1) := by decide +kernel
theorem dL_law_1021 : decode cL_law 1021 = .ok (.iadd, 1) := by decide +kernel
theorem dL_law_1022 : decode cL_law 1022 = .ok (.iaload, 1) := by decide +kernel
theorem dL_law_1023 : decode cL_law 1023 = .ok (.aload_n 0, 1) := by decide +kernel
theorem dL_law_1024 : decode cL_law 1024 = .ok (.iload_n 3, 1) := by decide +kernel
theorem dL_law_1025 : decode cL_law 1025 = .ok (.iconst 3, 1) := by decide +kernel
theorem dL_law_1026 : decode cL_law 1026 = .ok (.iadd, 1) := by decide +kernel
theorem dL_law_1027 : decode cL_law 1027 = .ok (.iaload, 1) := by decide +kernel
theorem dL_law_1028 : decode cL_law 1028 = .ok (.aload_n 0, 1) := by decide +kernel
theorem dL_law_1029 : decode cL_law 1029 = .ok (.iload_n 3, 1) := by decide +kernel
theorem dL_law_1030 : decode cL_law 1030 = .ok (.iconst 4, 1) := by decide +kernel
theorem dL_law_1031 : decode cL_law 1031 = .ok (.iadd, 1) := by decide +kernel
theorem dL_law_1032 : decode cL_law 1032 = .ok (.iaload, 1) := by decide +kernel
theorem dL_law_1033 : decode cL_law 1033 = .ok (.aload_n 0, 1) := by decide +kernel
theorem dL_law_1034 : decode cL_law 1034 = .ok (.iload_n 3, 1) := by decide +kernel
theorem dL_law_1035 : decode cL_law 1035 = .ok (.iconst 5, 1) := by decide +kernel
theorem dL_law_1036 : decode cL_law 1036 = .ok (.iadd, 1) := by decide +kernel
theorem dL_law_1037 : decode cL_law 1037 = .ok (.iaload, 1) := by decide +kernel
theorem dL_law_1038 : decode cL_law 1038 = .ok (.aload_n 0, 1) := by decide +kernel
theorem dL_law_1039 : decode cL_law 1039 = .ok (.iload_n 3, 1) := by decide +kernel
theorem dL_law_1040 : decode cL_law 1040 = .ok (.bipush 6, 2) := by decide +kernel
theorem dL_law_1042 : decode cL_law 1042 = .ok (.iadd, 1) := by decide +kernel
theorem dL_law_1043 : decode cL_law 1043 = .ok (.iaload, 1) := by decide +kernel
theorem dL_law_1044 : decode cL_law 1044 = .ok (.aload_n 0, 1) := by decide +kernel
theorem dL_law_1045 : decode cL_law 1045 = .ok (.iload_n 3, 1) := by decide +kernel
theorem dL_law_1046 : decode cL_law 1046 = .ok (.bipush 7, 2) := by decide +kernel
theorem dL_law_1048 : decode cL_law 1048 = .ok (.iadd, 1) := by decide +kernel
theorem dL_law_1049 : decode cL_law 1049 = .ok (.iaload, 1) := by decide +kernel
theorem dL_law_1050 : decode cL_law 1050 = .ok (.invokevirtual 110, 3) := by decide +kernel
theorem dL_law_1053 : decode cL_law 1053 = .ok (.aload_n 2, 1) := by decide +kernel
theorem dL_law_1054 : decode cL_law 1054 = .ok (.aload_n 0, 1) := by decide +kernel
theorem dL_law_1055 : decode cL_law 1055 = .ok (.iload_n 3, 1) := by decide +kernel
theorem dL_law_1056 : decode cL_law 1056 = .ok (.iconst 1, 1) := by decide +kernel
theorem dL_law_1057 : decode cL_law 1057 = .ok (.iadd, 1) := by decide +kernel
theorem dL_law_1058 : decode cL_law 1058 = .ok (.iaload, 1) := by decide +kernel
theorem dL_law_1059 : decode cL_law 1059 = .ok (.aload_n 0, 1) := by decide +kernel
theorem dL_law_1060 : decode cL_law 1060 = .ok (.iload_n 3, 1) := by decide +kernel
theorem dL_law_1061 : decode cL_law 1061 = .ok (.iconst 2, 1) := by decide +kernel
theorem dL_law_1062 : decode cL_law 1062 = .ok (.iadd, 1) := by decide +kernel
theorem dL_law_1063 : decode cL_law 1063 = .ok (.iaload, 1) := by decide +kernel
theorem dL_law_1064 : decode cL_law 1064 = .ok (.aload_n 0, 1) := by decide +kernel
theorem dL_law_1065 : decode cL_law 1065 = .ok (.iload_n 3, 1) := by decide +kernel
theorem dL_law_1066 : decode cL_law 1066 = .ok (.iconst 3, 1) := by decide +kernel
theorem dL_law_1067 : decode cL_law 1067 = .ok (.iadd, 1) := by decide +kernel
theorem dL_law_1068 : decode cL_law 1068 = .ok (.iaload, 1) := by decide +kernel
theorem dL_law_1069 : decode cL_law 1069 = .ok (.aload_n 0, 1) := by decide +kernel
theorem dL_law_1070 : decode cL_law 1070 = .ok (.iload_n 3, 1) := by decide +kernel
theorem dL_law_1071 : decode cL_law 1071 = .ok (.iconst 4, 1) := by decide +kernel
theorem dL_law_1072 : decode cL_law 1072 = .ok (.iadd, 1) := by decide +kernel
theorem dL_law_1073 : decode cL_law 1073 = .ok (.iaload, 1) := by decide +kernel
theorem dL_law_1074 : decode cL_law 1074 = .ok (.aload_n 0, 1) := by decide +kernel
theorem dL_law_1075 : decode cL_law 1075 = .ok (.iload_n 3, 1) := by decide +kernel
theorem dL_law_1076 : decode cL_law 1076 = .ok (.iconst 5, 1) := by decide +kernel
theorem dL_law_1077 : decode cL_law 1077 = .ok (.iadd, 1) := by decide +kernel
theorem dL_law_1078 : decode cL_law 1078 = .ok (.iaload, 1) := by decide +kernel
theorem dL_law_1079 : decode cL_law 1079 = .ok (.aload_n 0, 1) := by decide +kernel
theorem dL_law_1080 : decode cL_law 1080 = .ok (.iload_n 3, 1) := by decide +kernel
theorem dL_law_1081 : decode cL_law 1081 = .ok (.bipush 6, 2) := by decide +kernel
theorem dL_law_1083 : decode cL_law 1083 = .ok (.iadd, 1) := by decide +kernel
theorem dL_law_1084 : decode cL_law 1084 = .ok (.iaload, 1) := by decide +kernel
theorem dL_law_1085 : decode cL_law 1085 = .ok (.aload_n 0, 1) := by decide +kernel
theorem dL_law_1086 : decode cL_law 1086 = .ok (.iload_n 3, 1) := by decide +kernel
theorem dL_law_1087 : decode cL_law 1087 = .ok (.bipush 7, 2) := by decide +kernel
theorem dL_law_1089 : decode cL_law 1089 = .ok (.iadd, 1) := by decide +kernel
theorem dL_law_1090 : decode cL_law 1090 = .ok (.iaload, 1) := by decide +kernel
theorem dL_law_1091 : decode cL_law 1091 = .ok (.invokevirtual 114, 3) := by decide +kernel
theorem dL_law_1094 : decode cL_law 1094 = .ok (.if_icmp .eq 217, 3) := by decide +kernel
theorem dL_law_1097 : decode cL_law 1097 = .ok (.iconst 0, 1) := by decide +kernel
theorem dL_law_1098 : decode cL_law 1098 = .ok (.ireturn, 1) := by decide +kernel
theorem dL_law_1099 : decode cL_law 1099 = .ok (.aload_n 1, 1) := by decide +kernel
theorem dL_law_1100 : decode cL_law 1100 = .ok (.aload_n 0, 1) := by decide +kernel
theorem dL_law_1101 : decode cL_law 1101 = .ok (.iload_n 3, 1) := by decide +kernel
theorem dL_law_1102 : decode cL_law 1102 = .ok (.iconst 1, 1) := by decide +kernel
theorem dL_law_1103 : decode cL_law 1103 = .ok (.iadd, 1) := by decide +kernel
theorem dL_law_1104 : decode cL_law 1104 = .ok (.iaload, 1) := by decide +kernel
theorem dL_law_1105 : decode cL_law 1105 = .ok (.aload_n 0, 1) := by decide +kernel
theorem dL_law_1106 : decode cL_law 1106 = .ok (.iload_n 3, 1) := by decide +kernel
theorem dL_law_1107 : decode cL_law 1107 = .ok (.iconst 2, 1) := by decide +kernel
theorem dL_law_1108 : decode cL_law 1108 = .ok (.iadd, 1) := by decide +kernel
theorem dL_law_1109 : decode cL_law 1109 = .ok (.iaload, 1) := by decide +kernel
theorem dL_law_1110 : decode cL_law 1110 = .ok (.aload_n 0, 1) := by decide +kernel
theorem dL_law_1111 : decode cL_law 1111 = .ok (.iload_n 3, 1) := by decide +kernel
theorem dL_law_1112 : decode cL_law 1112 = .ok (.iconst 3, 1) := by decide +kernel
theorem dL_law_1113 : decode cL_law 1113 = .ok (.iadd, 1) := by decide +kernel
theorem dL_law_1114 : decode cL_law 1114 = .ok (.iaload, 1) := by decide +kernel
theorem dL_law_1115 : decode cL_law 1115 = .ok (.invokevirtual 115, 3) := by decide +kernel
theorem dL_law_1118 : decode cL_law 1118 = .ok (.aload_n 2, 1) := by decide +kernel
theorem dL_law_1119 : decode cL_law 1119 = .ok (.aload_n 0, 1) := by decide +kernel
theorem dL_law_1120 : decode cL_law 1120 = .ok (.iload_n 3, 1) := by decide +kernel
theorem dL_law_1121 : decode cL_law 1121 = .ok (.iconst 1, 1) := by decide +kernel
theorem dL_law_1122 : decode cL_law 1122 = .ok (.iadd, 1) := by decide +kernel
theorem dL_law_1123 : decode cL_law 1123 = .ok (.iaload, 1) := by decide +kernel
theorem dL_law_1124 : decode cL_law 1124 = .ok (.aload_n 0, 1) := by decide +kernel
theorem dL_law_1125 : decode cL_law 1125 = .ok (.iload_n 3, 1) := by decide +kernel
theorem dL_law_1126 : decode cL_law 1126 = .ok (.iconst 2, 1) := by decide +kernel
theorem dL_law_1127 : decode cL_law 1127 = .ok (.iadd, 1) := by decide +kernel
theorem dL_law_1128 : decode cL_law 1128 = .ok (.iaload, 1) := by decide +kernel
theorem dL_law_1129 : decode cL_law 1129 = .ok (.aload_n 0, 1) := by decide +kernel
theorem dL_law_1130 : decode cL_law 1130 = .ok (.iload_n 3, 1) := by decide +kernel
theorem dL_law_1131 : decode cL_law 1131 = .ok (.iconst 3, 1) := by decide +kernel
theorem dL_law_1132 : decode cL_law 1132 = .ok (.iadd, 1) := by decide +kernel
theorem dL_law_1133 : decode cL_law 1133 = .ok (.iaload, 1) := by decide +kernel
theorem dL_law_1134 : decode cL_law 1134 = .ok (.invokevirtual 118, 3) := by decide +kernel
theorem dL_law_1137 : decode cL_law 1137 = .ok (.if_icmp .eq 174, 3) := by decide +kernel
theorem dL_law_1140 : decode cL_law 1140 = .ok (.iconst 0, 1) := by decide +kernel
theorem dL_law_1141 : decode cL_law 1141 = .ok (.ireturn, 1) := by decide +kernel
theorem dL_law_1142 : decode cL_law 1142 = .ok (.aload_n 1, 1) := by decide +kernel
theorem dL_law_1143 : decode cL_law 1143 = .ok (.aload_n 0, 1) := by decide +kernel
theorem dL_law_1144 : decode cL_law 1144 = .ok (.iload_n 3, 1) := by decide +kernel
theorem dL_law_1145 : decode cL_law 1145 = .ok (.iconst 1, 1) := by decide +kernel
theorem dL_law_1146 : decode cL_law 1146 = .ok (.iadd, 1) := by decide +kernel
theorem dL_law_1147 : decode cL_law 1147 = .ok (.iaload, 1) := by decide +kernel
theorem dL_law_1148 : decode cL_law 1148 = .ok (.invokevirtual 119, 3) := by decide +kernel
theorem dL_law_1151 : decode cL_law 1151 = .ok (.aload_n 2, 1) := by decide +kernel
theorem dL_law_1152 : decode cL_law 1152 = .ok (.aload_n 0, 1) := by decide +kernel
theorem dL_law_1153 : decode cL_law 1153 = .ok (.iload_n 3, 1) := by decide +kernel
theorem dL_law_1154 : decode cL_law 1154 = .ok (.iconst 1, 1) := by decide +kernel
theorem dL_law_1155 : decode cL_law 1155 = .ok (.iadd, 1) := by decide +kernel
theorem dL_law_1156 : decode cL_law 1156 = .ok (.iaload, 1) := by decide +kernel
theorem dL_law_1157 : decode cL_law 1157 = .ok (.invokevirtual 122, 3) := by decide +kernel
theorem dL_law_1160 : decode cL_law 1160 = .ok (.if_icmp .eq 151, 3) := by decide +kernel
theorem dL_law_1163 : decode cL_law 1163 = .ok (.iconst 0, 1) := by decide +kernel
theorem dL_law_1164 : decode cL_law 1164 = .ok (.ireturn, 1) := by decide +kernel
theorem dL_law_1165 : decode cL_law 1165 = .ok (.aload_n 1, 1) := by decide +kernel
theorem dL_law_1166 : decode cL_law 1166 = .ok (.aload_n 0, 1) := by decide +kernel
theorem dL_law_1167 : decode cL_law 1167 = .ok (.iload_n 3, 1) := by decide +kernel
theorem dL_law_1168 : decode cL_law 1168 = .ok (.iconst 1, 1) := by decide +kernel
theorem dL_law_1169 : decode cL_law 1169 = .ok (.iadd, 1) := by decide +kernel
theorem dL_law_1170 : decode cL_law 1170 = .ok (.iaload, 1) := by decide +kernel
theorem dL_law_1171 : decode cL_law 1171 = .ok (.aload_n 0, 1) := by decide +kernel
theorem dL_law_1172 : decode cL_law 1172 = .ok (.iload_n 3, 1) := by decide +kernel
theorem dL_law_1173 : decode cL_law 1173 = .ok (.iconst 2, 1) := by decide +kernel
theorem dL_law_1174 : decode cL_law 1174 = .ok (.iadd, 1) := by decide +kernel
theorem dL_law_1175 : decode cL_law 1175 = .ok (.iaload, 1) := by decide +kernel
theorem dL_law_1176 : decode cL_law 1176 = .ok (.aload_n 0, 1) := by decide +kernel
theorem dL_law_1177 : decode cL_law 1177 = .ok (.iload_n 3, 1) := by decide +kernel
theorem dL_law_1178 : decode cL_law 1178 = .ok (.iconst 3, 1) := by decide +kernel
theorem dL_law_1179 : decode cL_law 1179 = .ok (.iadd, 1) := by decide +kernel
theorem dL_law_1180 : decode cL_law 1180 = .ok (.iaload, 1) := by decide +kernel
theorem dL_law_1181 : decode cL_law 1181 = .ok (.aload_n 0, 1) := by decide +kernel
theorem dL_law_1182 : decode cL_law 1182 = .ok (.iload_n 3, 1) := by decide +kernel
theorem dL_law_1183 : decode cL_law 1183 = .ok (.iconst 4, 1) := by decide +kernel
theorem dL_law_1184 : decode cL_law 1184 = .ok (.iadd, 1) := by decide +kernel
theorem dL_law_1185 : decode cL_law 1185 = .ok (.iaload, 1) := by decide +kernel
theorem dL_law_1186 : decode cL_law 1186 = .ok (.i2l, 1) := by decide +kernel
theorem dL_law_1187 : decode cL_law 1187 = .ok (.bipush 32, 2) := by decide +kernel
theorem dL_law_1189 : decode cL_law 1189 = .ok (.lshl, 1) := by decide +kernel
theorem dL_law_1190 : decode cL_law 1190 = .ok (.aload_n 0, 1) := by decide +kernel
theorem dL_law_1191 : decode cL_law 1191 = .ok (.iload_n 3, 1) := by decide +kernel
theorem dL_law_1192 : decode cL_law 1192 = .ok (.iconst 5, 1) := by decide +kernel
theorem dL_law_1193 : decode cL_law 1193 = .ok (.iadd, 1) := by decide +kernel
theorem dL_law_1194 : decode cL_law 1194 = .ok (.iaload, 1) := by decide +kernel
theorem dL_law_1195 : decode cL_law 1195 = .ok (.i2l, 1) := by decide +kernel
theorem dL_law_1196 : decode cL_law 1196 = .ok (.ldc2_w 13, 3) := by decide +kernel
theorem dL_law_1199 : decode cL_law 1199 = .ok (.land, 1) := by decide +kernel
theorem dL_law_1200 : decode cL_law 1200 = .ok (.lor, 1) := by decide +kernel
theorem dL_law_1201 : decode cL_law 1201 = .ok (.invokevirtual 123, 3) := by decide +kernel
theorem dL_law_1204 : decode cL_law 1204 = .ok (.aload_n 2, 1) := by decide +kernel
theorem dL_law_1205 : decode cL_law 1205 = .ok (.aload_n 0, 1) := by decide +kernel
theorem dL_law_1206 : decode cL_law 1206 = .ok (.iload_n 3, 1) := by decide +kernel
theorem dL_law_1207 : decode cL_law 1207 = .ok (.iconst 1, 1) := by decide +kernel
theorem dL_law_1208 : decode cL_law 1208 = .ok (.iadd, 1) := by decide +kernel
theorem dL_law_1209 : decode cL_law 1209 = .ok (.iaload, 1) := by decide +kernel
theorem dL_law_1210 : decode cL_law 1210 = .ok (.aload_n 0, 1) := by decide +kernel
theorem dL_law_1211 : decode cL_law 1211 = .ok (.iload_n 3, 1) := by decide +kernel
theorem dL_law_1212 : decode cL_law 1212 = .ok (.iconst 2, 1) := by decide +kernel
theorem dL_law_1213 : decode cL_law 1213 = .ok (.iadd, 1) := by decide +kernel
theorem dL_law_1214 : decode cL_law 1214 = .ok (.iaload, 1) := by decide +kernel
theorem dL_law_1215 : decode cL_law 1215 = .ok (.aload_n 0, 1) := by decide +kernel
theorem dL_law_1216 : decode cL_law 1216 = .ok (.iload_n 3, 1) := by decide +kernel
theorem dL_law_1217 : decode cL_law 1217 = .ok (.iconst 3, 1) := by decide +kernel
theorem dL_law_1218 : decode cL_law 1218 = .ok (.iadd, 1) := by decide +kernel
theorem dL_law_1219 : decode cL_law 1219 = .ok (.iaload, 1) := by decide +kernel
theorem dL_law_1220 : decode cL_law 1220 = .ok (.aload_n 0, 1) := by decide +kernel
theorem dL_law_1221 : decode cL_law 1221 = .ok (.iload_n 3, 1) := by decide +kernel
theorem dL_law_1222 : decode cL_law 1222 = .ok (.iconst 4, 1) := by decide +kernel
theorem dL_law_1223 : decode cL_law 1223 = .ok (.iadd, 1) := by decide +kernel
theorem dL_law_1224 : decode cL_law 1224 = .ok (.iaload, 1) := by decide +kernel
theorem dL_law_1225 : decode cL_law 1225 = .ok (.i2l, 1) := by decide +kernel
theorem dL_law_1226 : decode cL_law 1226 = .ok (.bipush 32, 2) := by decide +kernel
theorem dL_law_1228 : decode cL_law 1228 = .ok (.lshl, 1) := by decide +kernel
theorem dL_law_1229 : decode cL_law 1229 = .ok (.aload_n 0, 1) := by decide +kernel
theorem dL_law_1230 : decode cL_law 1230 = .ok (.iload_n 3, 1) := by decide +kernel
theorem dL_law_1231 : decode cL_law 1231 = .ok (.iconst 5, 1) := by decide +kernel
theorem dL_law_1232 : decode cL_law 1232 = .ok (.iadd, 1) := by decide +kernel
theorem dL_law_1233 : decode cL_law 1233 = .ok (.iaload, 1) := by decide +kernel
theorem dL_law_1234 : decode cL_law 1234 = .ok (.i2l, 1) := by decide +kernel
theorem dL_law_1235 : decode cL_law 1235 = .ok (.ldc2_w 13, 3) := by decide +kernel
theorem dL_law_1238 : decode cL_law 1238 = .ok (.land, 1) := by decide +kernel
theorem dL_law_1239 : decode cL_law 1239 = .ok (.lor, 1) := by decide +kernel
theorem dL_law_1240 : decode cL_law 1240 = .ok (.invokevirtual 127, 3) := by decide +kernel
theorem dL_law_1243 : decode cL_law 1243 = .ok (.if_icmp .eq 68, 3) := by decide +kernel
theorem dL_law_1246 : decode cL_law 1246 = .ok (.iconst 0, 1) := by decide +kernel
theorem dL_law_1247 : decode cL_law 1247 = .ok (.ireturn, 1) := by decide +kernel
theorem dL_law_1248 : decode cL_law 1248 = .ok (.aload_n 1, 1) := by decide +kernel
theorem dL_law_1249 : decode cL_law 1249 = .ok (.aload_n 0, 1) := by decide +kernel
theorem dL_law_1250 : decode cL_law 1250 = .ok (.iload_n 3, 1) := by decide +kernel
theorem dL_law_1251 : decode cL_law 1251 = .ok (.iconst 1, 1) := by decide +kernel
theorem dL_law_1252 : decode cL_law 1252 = .ok (.iadd, 1) := by decide +kernel
theorem dL_law_1253 : decode cL_law 1253 = .ok (.iaload, 1) := by decide +kernel
theorem dL_law_1254 : decode cL_law 1254 = .ok (.aload_n 0, 1) := by decide +kernel
theorem dL_law_1255 : decode cL_law 1255 = .ok (.iload_n 3, 1) := by decide +kernel
theorem dL_law_1256 : decode cL_law 1256 = .ok (.iconst 2, 1) := by decide +kernel
theorem dL_law_1257 : decode cL_law 1257 = .ok (.iadd, 1) := by decide +kernel
theorem dL_law_1258 : decode cL_law 1258 = .ok (.iaload, 1) := by decide +kernel
theorem dL_law_1259 : decode cL_law 1259 = .ok (.aload_n 0, 1) := by decide +kernel
theorem dL_law_1260 : decode cL_law 1260 = .ok (.iload_n 3, 1) := by decide +kernel
theorem dL_law_1261 : decode cL_law 1261 = .ok (.iconst 3, 1) := by decide +kernel
theorem dL_law_1262 : decode cL_law 1262 = .ok (.iadd, 1) := by decide +kernel
theorem dL_law_1263 : decode cL_law 1263 = .ok (.iaload, 1) := by decide +kernel
theorem dL_law_1264 : decode cL_law 1264 = .ok (.aload_n 0, 1) := by decide +kernel
theorem dL_law_1265 : decode cL_law 1265 = .ok (.iload_n 3, 1) := by decide +kernel
theorem dL_law_1266 : decode cL_law 1266 = .ok (.iconst 4, 1) := by decide +kernel
theorem dL_law_1267 : decode cL_law 1267 = .ok (.iadd, 1) := by decide +kernel
theorem dL_law_1268 : decode cL_law 1268 = .ok (.iaload, 1) := by decide +kernel
theorem dL_law_1269 : decode cL_law 1269 = .ok (.aload_n 0, 1) := by decide +kernel
theorem dL_law_1270 : decode cL_law 1270 = .ok (.iload_n 3, 1) := by decide +kernel
theorem dL_law_1271 : decode cL_law 1271 = .ok (.iconst 5, 1) := by decide +kernel
theorem dL_law_1272 : decode cL_law 1272 = .ok (.iadd, 1) := by decide +kernel
theorem dL_law_1273 : decode cL_law 1273 = .ok (.iaload, 1) := by decide +kernel
theorem dL_law_1274 : decode cL_law 1274 = .ok (.invokevirtual 128, 3) := by decide +kernel
theorem dL_law_1277 : decode cL_law 1277 = .ok (.aload_n 2, 1) := by decide +kernel
theorem dL_law_1278 : decode cL_law 1278 = .ok (.aload_n 0, 1) := by decide +kernel
theorem dL_law_1279 : decode cL_law 1279 = .ok (.iload_n 3, 1) := by decide +kernel
theorem dL_law_1280 : decode cL_law 1280 = .ok (.iconst 1, 1) := by decide +kernel
theorem dL_law_1281 : decode cL_law 1281 = .ok (.iadd, 1) := by decide +kernel
theorem dL_law_1282 : decode cL_law 1282 = .ok (.iaload, 1) := by decide +kernel
theorem dL_law_1283 : decode cL_law 1283 = .ok (.aload_n 0, 1) := by decide +kernel
theorem dL_law_1284 : decode cL_law 1284 = .ok (.iload_n 3, 1) := by decide +kernel
theorem dL_law_1285 : decode cL_law 1285 = .ok (.iconst 2, 1) := by decide +kernel
theorem dL_law_1286 : decode cL_law 1286 = .ok (.iadd, 1) := by decide +kernel
theorem dL_law_1287 : decode cL_law 1287 = .ok (.iaload, 1) := by decide +kernel
theorem dL_law_1288 : decode cL_law 1288 = .ok (.aload_n 0, 1) := by decide +kernel
theorem dL_law_1289 : decode cL_law 1289 = .ok (.iload_n 3, 1) := by decide +kernel
theorem dL_law_1290 : decode cL_law 1290 = .ok (.iconst 3, 1) := by decide +kernel
theorem dL_law_1291 : decode cL_law 1291 = .ok (.iadd, 1) := by decide +kernel
theorem dL_law_1292 : decode cL_law 1292 = .ok (.iaload, 1) := by decide +kernel
theorem dL_law_1293 : decode cL_law 1293 = .ok (.aload_n 0, 1) := by decide +kernel
theorem dL_law_1294 : decode cL_law 1294 = .ok (.iload_n 3, 1) := by decide +kernel
theorem dL_law_1295 : decode cL_law 1295 = .ok (.iconst 4, 1) := by decide +kernel
theorem dL_law_1296 : decode cL_law 1296 = .ok (.iadd, 1) := by decide +kernel
theorem dL_law_1297 : decode cL_law 1297 = .ok (.iaload, 1) := by decide +kernel
theorem dL_law_1298 : decode cL_law 1298 = .ok (.aload_n 0, 1) := by decide +kernel
theorem dL_law_1299 : decode cL_law 1299 = .ok (.iload_n 3, 1) := by decide +kernel
theorem dL_law_1300 : decode cL_law 1300 = .ok (.iconst 5, 1) := by decide +kernel
theorem dL_law_1301 : decode cL_law 1301 = .ok (.iadd, 1) := by decide +kernel
theorem dL_law_1302 : decode cL_law 1302 = .ok (.iaload, 1) := by decide +kernel
theorem dL_law_1303 : decode cL_law 1303 = .ok (.invokevirtual 131, 3) := by decide +kernel
theorem dL_law_1306 : decode cL_law 1306 = .ok (.if_icmp .eq 5, 3) := by decide +kernel
theorem dL_law_1309 : decode cL_law 1309 = .ok (.iconst 0, 1) := by decide +kernel
theorem dL_law_1310 : decode cL_law 1310 = .ok (.ireturn, 1) := by decide +kernel
theorem dL_law_1311 : decode cL_law 1311 = .ok (.iinc 3 8, 3) := by decide +kernel
theorem dL_law_1314 : decode cL_law 1314 = .ok (.goto (-1296), 3) := by decide +kernel
theorem dL_law_1317 : decode cL_law 1317 = .ok (.iconst 1, 1) := by decide +kernel
theorem dL_law_1318 : decode cL_law 1318 = .ok (.ireturn, 1) := by decide +kernel
end
section
/-! THE LAYER: all cells of class and reference are fixed after the two constructors; a heap of ints h : cell -> place -> int says the rest. -/
abbrev kx_H : Type := Nat → Nat → Int32
def kx_up (h : kx_H) (a k : Nat) (v : Int32) : kx_H := fun b j => if b = a ∧ j = k then v else h b j
def kx_cp (h : kx_H) (a b sp dp n : Nat) : kx_H := fun c k => if c = b ∧ dp ≤ k ∧ k < dp + n then h a (sp + (k - dp)) else h c k
def kx_val (ad : Nat → Nat) : Value → Value
  | .ref a => .ref (ad a)
  | v => v
theorem kx_val_cat (ad : Nat → Nat) (v : Value) : (kx_val ad v).category = v.category := by cases v <;> rfl
abbrev kx_S : Type := Nat × Nat × Nat × Nat × List (Option Nat)
def kx_shl : List kx_S := [(0, 8, 0, 0, [some 1, some 23, none, some 45, some 47, some 56, some 57, some 58, some 64, some 112, some 115, some 125]), (0, 2, 0, 0, [none, none, none, none, none, some 2, some 3, some 12, some 13, some 18, none, none, none, none]), (1, 8, 0, 0, []), (3, 4, 1, 8, []), (1, 9, 0, 0, []), (1, 9, 0, 0, []), (1, 9, 0, 0, []), (1, 9, 0, 0, []), (1, 9, 0, 0, []), (1, 9, 0, 0, []), (1, 9, 0, 0, []), (1, 9, 0, 0, []), (1, 4, 0, 0, []), (3, 14, 1, 4, []), (1, 4, 0, 0, []), (1, 4, 0, 0, []), (1, 4, 0, 0, []), (1, 4, 0, 0, []), (3, 19, 1, 4, []), (1, 8, 0, 0, []), (1, 8, 0, 0, []), (1, 8, 0, 0, []), (1, 8, 0, 0, []), (0, 2, 0, 0, [none, none, none, none, none, some 24, some 25, some 34, some 35, some 40, none, none, none, none]), (1, 8, 0, 0, []), (3, 26, 1, 8, []), (1, 9, 0, 0, []), (1, 9, 0, 0, []), (1, 9, 0, 0, []), (1, 9, 0, 0, []), (1, 9, 0, 0, []), (1, 9, 0, 0, []), (1, 9, 0, 0, []), (1, 9, 0, 0, []), (1, 4, 0, 0, []), (3, 36, 1, 4, []), (1, 4, 0, 0, []), (1, 4, 0, 0, []), (1, 4, 0, 0, []), (1, 4, 0, 0, []), (3, 41, 1, 4, []), (1, 8, 0, 0, []), (1, 8, 0, 0, []), (1, 8, 0, 0, []), (1, 8, 0, 0, []), (0, 7, 0, 0, [some 46, none]), (1, 24, 0, 0, []), (4, 48, 2, 4, []), (0, 5, 0, 0, [none, none, some 49]), (1, 24, 0, 0, []), (0, 5, 0, 0, [none, none, some 51]), (1, 24, 0, 0, []), (0, 5, 0, 0, [none, none, some 53]), (1, 24, 0, 0, []), (0, 5, 0, 0, [none, none, some 55]), (1, 24, 0, 0, []), (1, 16, 0, 0, []), (1, 18, 0, 0, []), (0, 6, 0, 0, [some 59, some 60, some 61, some 62, some 63, none, none, none, none, none, none]), (1, 8, 0, 0, []), (1, 8, 0, 0, []), (1, 8, 0, 0, []), (1, 5, 0, 0, []), (1, 5, 0, 0, []), (0, 0, 0, 0, [some 65, some 98, some 99, some 109, some 110, some 111, none, none, none]), (3, 66, 1, 32, []), (1, 4, 0, 0, []), (1, 4, 0, 0, []), (1, 4, 0, 0, []), (1, 4, 0, 0, []), (1, 4, 0, 0, []), (1, 4, 0, 0, []), (1, 4, 0, 0, []), (1, 4, 0, 0, []), (1, 4, 0, 0, []), (1, 4, 0, 0, []), (1, 4, 0, 0, []), (1, 4, 0, 0, []), (1, 4, 0, 0, []), (1, 4, 0, 0, []), (1, 4, 0, 0, []), (1, 4, 0, 0, []), (1, 4, 0, 0, []), (1, 4, 0, 0, []), (1, 4, 0, 0, []), (1, 4, 0, 0, []), (1, 4, 0, 0, []), (1, 4, 0, 0, []), (1, 4, 0, 0, []), (1, 4, 0, 0, []), (1, 4, 0, 0, []), (1, 4, 0, 0, []), (1, 4, 0, 0, []), (1, 4, 0, 0, []), (1, 4, 0, 0, []), (1, 4, 0, 0, []), (1, 4, 0, 0, []), (1, 4, 0, 0, []), (2, 32, 0, 0, []), (3, 100, 1, 9, []), (1, 4, 0, 0, []), (1, 4, 0, 0, []), (1, 4, 0, 0, []), (1, 4, 0, 0, []), (1, 4, 0, 0, []), (1, 4, 0, 0, []), (1, 4, 0, 0, []), (1, 4, 0, 0, []), (1, 4, 0, 0, []), (1, 4, 0, 0, []), (1, 8, 0, 0, []), (1, 8, 0, 0, []), (0, 4, 0, 0, [some 113, some 114, none, none]), (1, 256, 0, 0, []), (1, 8, 0, 0, []), (0, 3, 0, 0, [some 116, some 121, some 122, some 123, some 124, none, none, none, none]), (3, 117, 1, 4, []), (1, 9, 0, 0, []), (1, 9, 0, 0, []), (1, 9, 0, 0, []), (1, 9, 0, 0, []), (1, 4, 0, 0, []), (1, 9, 0, 0, []), (1, 3, 0, 0, []), (1, 3, 0, 0, []), (0, 1, 0, 0, [some 126, none, none, none]), (1, 9, 0, 0, []), (0, 9, 0, 0, [some 128, some 129, none, some 130, none, some 131, some 132, some 133, some 134, some 135, some 136, some 137, some 138, some 139, some 140, some 141]), (1, 141, 0, 0, []), (1, 141, 0, 0, []), (1, 24, 0, 0, []), (1, 4, 0, 0, []), (1, 4, 0, 0, []), (1, 96, 0, 0, []), (1, 8, 0, 0, []), (1, 8, 0, 0, []), (1, 8, 0, 0, []), (1, 128, 0, 0, []), (1, 4, 0, 0, []), (1, 18, 0, 0, []), (1, 9, 0, 0, []), (1, 9, 0, 0, [])]
def kx_sh (i : Nat) : kx_S := kx_shl.getD i (9, 0, 0, 0, [])
def kx_fs (ad : Nat → Nat) (f : Nat → Int32) : Nat → List (Option Nat) → List Value
  | _, [] => []
  | k, none :: r => .int (f k) :: kx_fs ad f (k + 1) r
  | k, some j :: r => .ref (ad j) :: kx_fs ad f (k + 1) r
theorem kx_fs_len (ad : Nat → Nat) (f : Nat → Int32) : ∀ (k : Nat) (l : List (Option Nat)), (kx_fs ad f k l).length = l.length
  | _, [] => rfl
  | k, none :: r => by simp [kx_fs, kx_fs_len ad f (k + 1) r]
  | k, some j :: r => by simp [kx_fs, kx_fs_len ad f (k + 1) r]
theorem kx_fs_int (ad : Nat → Nat) (f : Nat → Int32) : ∀ (k : Nat) (l : List (Option Nat)) (i : Nat), l[i]? = some none → (kx_fs ad f k l)[i]? = some (.int (f (k + i)))
  | _, [], i, h => by simp at h
  | k, none :: r, 0, h => by simp [kx_fs]
  | k, some j :: r, 0, h => by simp at h
  | k, none :: r, i + 1, h => by
    have h2 := kx_fs_int ad f (k + 1) r i (by simpa using h)
    simp only [kx_fs, List.getElem?_cons_succ, h2]
    rw [show k + 1 + i = k + (i + 1) by omega]
  | k, some j :: r, i + 1, h => by
    have h2 := kx_fs_int ad f (k + 1) r i (by simpa using h)
    simp only [kx_fs, List.getElem?_cons_succ, h2]
    rw [show k + 1 + i = k + (i + 1) by omega]
theorem kx_fs_ref (ad : Nat → Nat) (f : Nat → Int32) : ∀ (k : Nat) (l : List (Option Nat)) (i j : Nat), l[i]? = some (some j) → (kx_fs ad f k l)[i]? = some (.ref (ad j))
  | _, [], i, j, h => by simp at h
  | k, none :: r, 0, j, h => by simp at h
  | k, some j' :: r, 0, j, h => by simp at h; subst h; simp [kx_fs]
  | k, none :: r, i + 1, j, h => by
    simpa [kx_fs] using kx_fs_ref ad f (k + 1) r i j (by simpa using h)
  | k, some j' :: r, i + 1, j, h => by
    simpa [kx_fs] using kx_fs_ref ad f (k + 1) r i j (by simpa using h)
theorem kx_fs_cong (ad : Nat → Nat) (f g : Nat → Int32) : ∀ (k : Nat) (l : List (Option Nat)), (∀ j, k ≤ j → f j = g j) → kx_fs ad f k l = kx_fs ad g k l
  | _, [], _ => rfl
  | k, none :: r, h => by simp only [kx_fs]; rw [h k (Nat.le_refl k), kx_fs_cong ad f g (k + 1) r (fun j hj => h j (by omega))]
  | k, some j :: r, h => by simp only [kx_fs]; rw [kx_fs_cong ad f g (k + 1) r (fun j hj => h j (by omega))]
theorem kx_fs_set (ad : Nat → Nat) (f : Nat → Int32) (v : Int32) : ∀ (k : Nat) (l : List (Option Nat)) (i : Nat), l[i]? = some none → (kx_fs ad f k l).set i (.int v) = kx_fs ad (fun j => if j = k + i then v else f j) k l
  | _, [], i, h => by simp at h
  | k, none :: r, 0, h => by
    simp only [kx_fs, List.set_cons_zero, Nat.add_zero, if_true]
    rw [kx_fs_cong ad f (fun j => if j = k then v else f j) (k + 1) r (fun j hj => (if_neg (by omega : ¬ j = k)).symm)]
  | k, some j :: r, 0, h => by simp at h
  | k, none :: r, i + 1, h => by
    have h2 := kx_fs_set ad f v (k + 1) r i (by simpa using h)
    simp only [kx_fs, List.set_cons_succ, h2]
    rw [if_neg (by omega : ¬ k = k + (i + 1)), show k + 1 + i = k + (i + 1) by omega]
  | k, some j :: r, i + 1, h => by
    have h2 := kx_fs_set ad f v (k + 1) r i (by simpa using h)
    simp only [kx_fs, List.set_cons_succ, h2]
    rw [show k + 1 + i = k + (i + 1) by omega]
def kx_cell (ad : Nat → Nat) (c : ClassId) (f : Nat → Int32) (s : kx_S) : va_E :=
  if s.1 = 0 then .inr (s.2.1, kx_fs ad f 0 s.2.2.2.2)
  else if s.1 = 1 ∨ s.1 = 2 then .inl (c, s.2.1, .inl f)
  else .inl (c, s.2.2.2.1, .inr (.inr (.inr (.inr (fun j => some (ad (s.2.1 + s.2.2.1 * j)))))))
def kx_ty (i : Nat) : FieldType := if (kx_sh i).1 = 2 then .boolean else if (kx_sh i).1 = 3 then .array .int else if (kx_sh i).1 = 4 then .object "SpunTales$Sheet" else .int
def kx_wl (ad : Nat → Nat) (cA : Nat → ClassId) (h : kx_H) : va_W := (List.range 142).map (fun i => (ad i, kx_cell ad (cA i) (h i) (kx_sh i)))
def kx_tys (cA : Nat → ClassId) : List (ClassId × FieldType) := (List.range 142).map (fun i => (cA i, kx_ty i))
theorem kx_wl_at {ad : Nat → Nat} {cA : Nat → ClassId} {h : kx_H} {i : Nat} (hi : i < 142) : (kx_wl ad cA h)[i]? = some (ad i, kx_cell ad (cA i) (h i) (kx_sh i)) := by simp [kx_wl, hi]
theorem kx_tys_at {cA : Nat → ClassId} {i : Nat} (hi : i < 142) : (kx_tys cA)[i]? = some (cA i, kx_ty i) := by simp [kx_tys, hi]
theorem kx_wl_set {ad : Nat → Nat} {cA : Nat → ClassId} {h h' : kx_H} {i : Nat} (hi : i < 142) {e : va_E} (he : kx_cell ad (cA i) (h' i) (kx_sh i) = e) (ho : ∀ b, b ≠ i → h' b = h b) : (kx_wl ad cA h).set i (ad i, e) = kx_wl ad cA h' := by
  subst he
  apply List.ext_getElem?
  intro k
  rw [List.getElem?_set]
  by_cases hk : i = k
  · subst hk
    simp [kx_wl, hi]
  · simp only [hk, if_false]
    by_cases hk2 : k < 142
    · rw [kx_wl_at hk2, kx_wl_at hk2, ho k (fun e => hk e.symm)]
    · simp [kx_wl, hk2]
theorem kx_wl_D {ad : Nat → Nat} {cA : Nat → ClassId} {h : kx_H} {A : Nat → Prop} (hJ : ∀ i j, i < 142 → j < 142 → ad i = ad j → i = j) (hA : ∀ i, i < 142 → A (ad i)) : va_D A (kx_wl ad cA h) := by
  have hlt : ∀ (k : Nat) (q : Nat × va_E), (kx_wl ad cA h)[k]? = some q → k < 142 ∧ q.1 = ad k := by
    intro k q hq
    have hk : k < 142 := by
      have := (List.getElem?_eq_some_iff.mp hq).1
      simpa [kx_wl] using this
    rw [kx_wl_at hk] at hq
    cases hq
    exact ⟨hk, rfl⟩
  refine ⟨fun i j p q hp hq e => ?_, fun k q hq => ?_⟩
  · obtain ⟨h1, e1⟩ := hlt i p hp
    obtain ⟨h2, e2⟩ := hlt j q hq
    exact hJ i j h1 h2 (by rw [← e1, ← e2]; exact e)
  · obtain ⟨h1, e1⟩ := hlt k q hq
    rw [e1]
    exact hA k h1
/-! the words that every method gets -/
def kx_tb : List Cond := lw_tbl.filter goodWord
theorem kx_in {w : Cond} (h : w ∈ lw_tbl) (hg : goodWord w = true) : w ∈ kx_tb := List.mem_filter.mpr ⟨h, hg⟩
theorem kx_sub {w : Cond} (h : w ∈ kx_tb) : w ∈ lw_tbl := (List.mem_filter.mp h).1
theorem kx_goodIn {w : Cond} (h : w ∈ kx_tb) : GoodIn kx_tb (w :: kx_tb) := fun v hv => by
  rcases List.mem_cons.mp hv with rfl | hv
  · exact ⟨h, good_of_word (List.mem_filter.mp h).2⟩
  · exact ⟨hv, good_of_word (List.mem_filter.mp hv).2⟩
theorem kx_t1 {w : Cond} (i : Nat) (h : tables_1[i]? = some w) (hg : goodWord w = true) : w ∈ kx_tb := kx_in (List.mem_append_right _ (List.mem_of_getElem? h)) hg
theorem kx_t0 {w : Cond} (i : Nat) (h : (k2_sels lw_privs)[i]? = some w) (hg : goodWord w = true) : w ∈ kx_tb := kx_in (List.mem_append_left _ (List.mem_of_getElem? h)) hg

def kx_nest : List (String × Nat × MethodName × String) := [("SpunTales$Tape", 19, ⟨"SpunTales", "isWithin", "(III)Z"⟩, "SpunTales"), ("SpunTales$Hearth", 39, ⟨"SpunTales", "isWithin", "(III)Z"⟩, "SpunTales"), ("SpunTales$Hearth", 59, ⟨"SpunTales", "asToldBy", "(II)I"⟩, "SpunTales"), ("SpunTales$Hearth", 63, ⟨"SpunTales", "isRemembered", "(III)Z"⟩, "SpunTales"), ("SpunTales$Hearth", 104, ⟨"SpunTales", "sortOf", "(I)I"⟩, "SpunTales"), ("SpunTales$Hearth", 107, ⟨"SpunTales", "duller", "(I)I"⟩, "SpunTales"), ("SpunTales$StoreSearch", 74, ⟨"SpunTales", "sortOf", "(I)I"⟩, "SpunTales"), ("SpunTales$StoreSearch", 78, ⟨"SpunTales", "duller", "(I)I"⟩, "SpunTales"), ("SpunTales$StoreSearch", 87, ⟨"SpunTales", "isRemembered", "(III)Z"⟩, "SpunTales"), ("SpunTales$Game", 30, ⟨"SpunTales", "retell", "(I[I[II)V"⟩, "SpunTales"), ("SpunTales$Game", 44, ⟨"SpunTales", "sortOf", "(I)I"⟩, "SpunTales"), ("SpunTales$CoatSearch", 81, ⟨"SpunTales", "areSame", "([I[II)Z"⟩, "SpunTales"), ("SpunTales$RowReading", 53, ⟨"SpunTales", "sortOf", "(I)I"⟩, "SpunTales"), ("SpunTales$Passing", 62, ⟨"SpunTales", "areSame", "([I[II)Z"⟩, "SpunTales"), ("SpunTales$Passing", 69, ⟨"SpunTales", "retell", "(I[I[II)V"⟩, "SpunTales")]
def kx_Nw (U : State) : Prop := ∀ q ∈ kx_nest, va_Nw (.methodLinkNest q.1 q.2.1 q.2.2.1 q.2.2.2) U
theorem kx_Nw.warm {s U : State} (hW : s.WarmedH U.vm) (h : kx_Nw s) : kx_Nw U := fun q hq => va_Nw.warmM hW (h q hq)
def kx_Wd (D : va_G) (ad : Nat → Nat) (cA : Nat → ClassId) (h : kx_H) (U : State) : Prop := va_P D vwCl (kx_wl ad cA h) U.heap ∧ va_K D vwCl (kx_tys cA) U ∧ kx_Nw U
def kx_A (ad : Nat → Nat) (q : Nat) : Prop := ∃ i, i < 142 ∧ q = ad i
def kx_rm (dp : Nat) : Room := { frames := dp, cells := 0, slots := 0, locals := 40 * dp }
def kx_lv (ad : Nat → Nat) : Nat → List (Option Value) → List (Nat × Value)
  | _, [] => []
  | i, none :: L => kx_lv ad (i + 1) L
  | i, some v :: L => (i, kx_val ad v) :: kx_lv ad (i + 1) L
theorem kx_lv_mem {ad : Nat → Nat} {q : Nat × Value} : ∀ (L : List (Option Value)) (i : Nat), q ∈ kx_lv ad i L ↔ ∃ (k : Nat) (v : Value), L[k]? = some (some v) ∧ q = (i + k, kx_val ad v)
  | [], i => by simp [kx_lv]
  | none :: L, i => by
    rw [show kx_lv ad i (none :: L) = kx_lv ad (i + 1) L from rfl, kx_lv_mem L (i + 1)]
    constructor
    · rintro ⟨k, v, h, e⟩
      exact ⟨k + 1, v, by simpa using h, by rw [e]; simp; omega⟩
    · rintro ⟨k, v, h, e⟩
      cases k with
      | zero => simp at h
      | succ k => exact ⟨k, v, by simpa using h, by rw [e]; simp; omega⟩
  | some w :: L, i => by
    rw [show kx_lv ad i (some w :: L) = (i, kx_val ad w) :: kx_lv ad (i + 1) L from rfl, List.mem_cons, kx_lv_mem L (i + 1)]
    constructor
    · rintro (e | ⟨k, v, h, e⟩)
      · exact ⟨0, w, by simp, by simpa using e⟩
      · exact ⟨k + 1, v, by simpa using h, by rw [e]; simp; omega⟩
    · rintro ⟨k, v, h, e⟩
      cases k with
      | zero => simp at h; subst h; exact Or.inl (by simpa using e)
      | succ k => exact Or.inr ⟨k, v, by simpa using h, by rw [e]; simp; omega⟩
def kx_nl : List (Option Value) → Nat → Bool
  | _, 0 => true
  | L, k + 1 => match L[k]? with
    | some (some v) => v.category == 1
    | _ => true
theorem kx_lo_at {ls : Array Slot} {nL : Nat} {ad : Nat → Nat} {L : List (Option Value)} (h : lv_has ls nL (kx_lv ad 0 L)) {k : Nat} {v : Value} (hk : L[k]? = some (some v)) : ls[k]? = some (.val (kx_val ad v)) :=
  h.2.2 (k, kx_val ad v) ((kx_lv_mem L 0).mpr ⟨k, v, hk, by simp⟩)
theorem kx_lo_set {ls : Array Slot} {nL : Nat} {ad : Nat → Nat} {L : List (Option Value)} {i : Nat} {v : Value} (hn : kx_nl L i = true) (h : lv_has ls nL ((i, kx_val ad v) :: (kx_lv ad 0 L).filter (fun q => !(q.1 == i) && !(q.1 + 1 == i && q.2.category == 2)))) : lv_has ls nL (kx_lv ad 0 (L.set i (some v))) := by
  refine ⟨h.1, h.2.1, fun q hq => ?_⟩
  obtain ⟨k, w, hk, e⟩ := (kx_lv_mem _ 0).mp hq
  rw [Nat.zero_add] at e
  rw [List.getElem?_set] at hk
  by_cases hik : i = k
  · subst hik
    rw [if_pos rfl] at hk
    split at hk
    · cases hk
      exact h.2.2 q (by rw [e]; exact List.mem_cons_self)
    · cases hk
  · rw [if_neg hik] at hk
    refine h.2.2 q (List.mem_cons_of_mem _ (List.mem_filter.mpr ⟨(kx_lv_mem L 0).mpr ⟨k, w, hk, by rw [e]; simp⟩, ?_⟩))
    rw [e]
    have h1 : ¬ k = i := fun z => hik z.symm
    by_cases h2 : k + 1 = i
    · subst h2
      simp only [kx_nl, hk] at hn
      simp [kx_val_cat, beq_iff_eq.mp hn]
    · simp [h1, h2]
def kx_la : List Value → List (Option Value)
  | [] => []
  | v :: vs => if v.category = 2 then some v :: none :: kx_la vs else some v :: kx_la vs
def kx_l0 (nL : Nat) (vs : List Value) : List (Option Value) := kx_la vs ++ List.replicate (nL - (kx_la vs).length) none
theorem kx_lv_app (ad : Nat → Nat) (n : Nat) : ∀ (L : List (Option Value)) (i : Nat), kx_lv ad i (L ++ List.replicate n none) = kx_lv ad i L
  | [], i => by
    induction n generalizing i with
    | zero => rfl
    | succ n ih => rw [List.replicate_succ]; exact ih (i + 1)
  | none :: L, i => kx_lv_app ad n L (i + 1)
  | some v :: L, i => by
    show (i, kx_val ad v) :: kx_lv ad (i + 1) (L ++ List.replicate n none) = _
    rw [kx_lv_app ad n L (i + 1)]; rfl
theorem kx_lv_args (ad : Nat → Nat) : ∀ (vs : List Value) (i : Nat), kx_lv ad i (kx_la vs) = lv_args i (vs.map (kx_val ad))
  | [], i => rfl
  | v :: vs, i => by
    by_cases hc : v.category = 2
    · simp only [kx_la, hc, if_true, List.map_cons, lv_args, kx_val_cat, kx_lv]
      rw [kx_lv_args ad vs (i + 1 + 1)]
    · simp only [kx_la, hc, if_false, List.map_cons, lv_args, kx_val_cat, kx_lv]
      rw [kx_lv_args ad vs (i + 1)]
theorem kx_la_len : ∀ (vs : List Value), (kx_la vs).length = (lg_sl vs).length
  | [] => rfl
  | v :: vs => by
    have h := kx_la_len vs
    by_cases hc : v.category = 2
    · simp [kx_la, lg_sl, hc, h]
    · simp [kx_la, lg_sl, hc, h]
theorem kx_sl_len (ad : Nat → Nat) : ∀ (vs : List Value), (lg_sl (vs.map (kx_val ad))).length = (lg_sl vs).length
  | [] => rfl
  | v :: vs => by
    have h := kx_sl_len ad vs
    by_cases hc : v.category = 2 <;> (simp [lg_sl, kx_val_cat, hc] at h ⊢ ; try omega)
/-! a method that stands at an instruction: F pc locals stack heap -/
abbrev kx_F : Type := Nat → List (Option Value) → List Value → kx_H → Prop
def kx_Ru (own : String) (cc : ByteArray) (nL dp : Nat) (F : kx_F) : Prop :=
  ∃ (p : Program) (l : Launch) (e : Env) (R : Room) (s : State) (m : MethodId) (args : Array Value) (below : List Frame) (meth : Method) (c : Code) (cells slots : Nat) (Q : State → Prop) (D : va_G) (ad : Nat → Nat) (cA : Nat → ClassId) (A : Nat → Prop),
    (p.tables.exec = Jvm.exec ∧ c.code = cc ∧ c.maxLocals = nL ∧ s.vm.findClass own = some m.cls ∧ ∀ w ∈ kx_tb, w.before args s = true) ∧ kx_Nw s ∧ va_K D vwCl (kx_tys cA) s ∧ (∀ i j, i < 142 → j < 142 → ad i = ad j → i = j) ∧ (∀ i, i < 142 → A (ad i)) ∧ (dp ≤ R.frames ∧ 40 * dp ≤ R.locals ∧ cells ≤ R.cells ∧ slots ≤ R.slots) ∧
    F = fun pc L S h => ∀ (H : Heap) (locs : List Loc) (ls : Array Slot), va_P D vwCl (kx_wl ad cA h) H → va_S A s.heap H locs → lv_has ls nL (kx_lv ad 0 L) → W p l e R s m args below meth c H locs cells slots Q (F0 m pc ls (S.map (kx_val ad)))
def kx_MI (dp : Nat) (y : MethodName) (cc : ByteArray) (nL : Nat) (rt : FieldType) (as : List Value) (h : kx_H) (Q : Int32 → kx_H → Prop) : Prop :=
  ∀ (l : Launch) (D : va_G) (ad : Nat → Nat) (cA : Nat → ClassId), (∀ i j, i < 142 → j < 142 → ad i = ad j → i = j) →
    Met l y (.code y cc nL (some rt) :: kx_tb) (kx_rm dp) (va_Pc (as.map (kx_val ad)) (kx_Wd D ad cA h)) (va_Qi Q (kx_Wd D ad cA) (kx_A ad)) 0 0 (kx_A ad)
def kx_MV (dp : Nat) (y : MethodName) (cc : ByteArray) (nL : Nat) (as : List Value) (h : kx_H) (Q : kx_H → Prop) : Prop :=
  ∀ (l : Launch) (D : va_G) (ad : Nat → Nat) (cA : Nat → ClassId), (∀ i j, i < 142 → j < 142 → ad i = ad j → i = j) →
    Met l y (.code y cc nL none :: kx_tb) (kx_rm dp) (va_Pc (as.map (kx_val ad)) (kx_Wd D ad cA h)) (va_Qv Q (kx_Wd D ad cA) (kx_A ad)) 0 0 (kx_A ad)
set_option maxRecDepth 20000 in
theorem kx_mkI {dp : Nat} {y : MethodName} {cc : ByteArray} {nL : Nat} {rt : FieldType} {as : List Value} {h : kx_H} {Q : Int32 → kx_H → Prop} {own : String} {L0 : List (Option Value)} (hown : y.cls = own) (hpl : plainName y.cls = true) (hlen : (lg_sl as).length ≤ nL) (hL : kx_l0 nL as = L0)
    (body : ∀ F : kx_F, kx_Ru own cc nL dp F → (∀ {pc : Nat} {L : List (Option Value)} {r : Int32} {h' : kx_H}, decode cc pc = .ok (.ireturn, 1) → narrow rt (.int r) = .int r → Q r h' → F pc L [.int r] h') → F 0 L0 [] h) : kx_MI dp y cc nL rt as h Q := by
  intro l D ad cA hJ
  refine Met.ofW (cc := cc) (maxL := nL) (ret := some rt) hpl rfl ?_
  intro p e s m args below meth c s₁ B hml hv
  obtain ⟨rfl, hP, hK, hN⟩ := hv
  have hx := B.exec
  have hb := B.bytes
  have hr := B.returns
  have hts := atoms_spec (ws := .code y cc nL (some rt) :: kx_tb) B.pre
  have hown2 : s.vm.findClass own = some m.cls := by rw [← hown]; exact findClass_of_methodNamed B.named
  have hlocks := B.notSynchronized
  rw [lg_entry_eq]
  have hl := lv_entry (as.map (kx_val ad)) (n := nL) (by rw [kx_sl_len]; exact hlen)
  have C : kx_Ru own cc nL dp (fun pc L S h => ∀ (H : Heap) (locs : List Loc) (ls : Array Slot), va_P D vwCl (kx_wl ad cA h) H → va_S (kx_A ad) s.heap H locs → lv_has ls nL (kx_lv ad 0 L) → W p l e (headSpec (.code y cc nL (some rt) :: kx_tb) (kx_rm dp)).room s m (as.map (kx_val ad)).toArray below meth c H locs 0 0 (MQ below (va_Qi Q (kx_Wd D ad cA) (kx_A ad)) (as.map (kx_val ad)).toArray s 0 0 (kx_A ad)) (F0 m pc ls (S.map (kx_val ad)))) :=
    ⟨p, l, e, _, s, m, _, below, meth, c, 0, 0, _, D, ad, cA, kx_A ad, ⟨hx, hb, hml, hown2, fun w hw => hts w (List.mem_cons_of_mem _ hw)⟩, hN, hK, hJ, fun i hi => ⟨i, hi, rfl⟩, ⟨Nat.le_refl _, Nat.le_refl _, Nat.le_refl _, Nat.le_refl _⟩, rfl⟩
  refine body _ C ?_ s.heap [] _ hP va_S.rf ?_
  · intro pc L r h' d hn hq H locs ls hP' hS hl'
    exact W.zret hx hb hr hn (fun t ht hw => ⟨⟨r, h', rfl, hq, by rw [ht]; exact hP', va_K.moved hw.alike hK, hN.warm hw⟩, hS.F ht⟩) (fun q hq => hS.2.2 q hq) d
  · rw [← hL, kx_l0, kx_lv_app, kx_lv_args]
    exact hl
set_option maxRecDepth 20000 in
theorem kx_mkV {dp : Nat} {y : MethodName} {cc : ByteArray} {nL : Nat} {as : List Value} {h : kx_H} {Q : kx_H → Prop} {own : String} {L0 : List (Option Value)} (hown : y.cls = own) (hpl : plainName y.cls = true) (hlen : (lg_sl as).length ≤ nL) (hL : kx_l0 nL as = L0)
    (body : ∀ F : kx_F, kx_Ru own cc nL dp F → (∀ {pc : Nat} {L : List (Option Value)} {h' : kx_H}, decode cc pc = .ok (.return_, 1) → Q h' → F pc L [] h') → F 0 L0 [] h) : kx_MV dp y cc nL as h Q := by
  intro l D ad cA hJ
  refine Met.ofW (cc := cc) (maxL := nL) (ret := none) hpl rfl ?_
  intro p e s m args below meth c s₁ B hml hv
  obtain ⟨rfl, hP, hK, hN⟩ := hv
  have hx := B.exec
  have hb := B.bytes
  have hr := B.returns
  have hts := atoms_spec (ws := .code y cc nL none :: kx_tb) B.pre
  have hown2 : s.vm.findClass own = some m.cls := by rw [← hown]; exact findClass_of_methodNamed B.named
  have hlocks := B.notSynchronized
  rw [lg_entry_eq]
  have hl := lv_entry (as.map (kx_val ad)) (n := nL) (by rw [kx_sl_len]; exact hlen)
  have C : kx_Ru own cc nL dp (fun pc L S h => ∀ (H : Heap) (locs : List Loc) (ls : Array Slot), va_P D vwCl (kx_wl ad cA h) H → va_S (kx_A ad) s.heap H locs → lv_has ls nL (kx_lv ad 0 L) → W p l e (headSpec (.code y cc nL none :: kx_tb) (kx_rm dp)).room s m (as.map (kx_val ad)).toArray below meth c H locs 0 0 (MQ below (va_Qv Q (kx_Wd D ad cA) (kx_A ad)) (as.map (kx_val ad)).toArray s 0 0 (kx_A ad)) (F0 m pc ls (S.map (kx_val ad)))) :=
    ⟨p, l, e, _, s, m, _, below, meth, c, 0, 0, _, D, ad, cA, kx_A ad, ⟨hx, hb, hml, hown2, fun w hw => hts w (List.mem_cons_of_mem _ hw)⟩, hN, hK, hJ, fun i hi => ⟨i, hi, rfl⟩, ⟨Nat.le_refl _, Nat.le_refl _, Nat.le_refl _, Nat.le_refl _⟩, rfl⟩
  refine body _ C ?_ s.heap [] _ hP va_S.rf ?_
  · intro pc L h' d hq H locs ls hP' hS hl'
    exact W.vret hx hb hr (fun t ht hw => ⟨⟨h', rfl, hq, by rw [ht]; exact hP', va_K.moved hw.alike hK, hN.warm hw⟩, hS.F ht⟩) (fun q hq => hS.2.2 q hq) d
  · rw [← hL, kx_l0, kx_lv_app, kx_lv_args]
    exact hl
end
section
theorem kx_iconst {own : String} {cc : ByteArray} {nL dp : Nat} {F : kx_F} (C : kx_Ru own cc nL dp F) {pc : Nat} {L : List (Option Value)} {S : List Value} {h : kx_H} {n : Int} {v : Int32} (d : decode cc pc = .ok (.iconst n, 1)) (hv : Int32.ofInt n = v) (k : F (pc + 1) L (.int v :: S) h) : F pc L S h := by
  obtain ⟨p, l, e, R, s, m, args, below, meth, c, cells, slots, Q, D, ad, cA, A, ⟨hx, hb, hml, hown, hts⟩, hN, hK, hJ, hA, hR, rfl⟩ := C
  intro H locs ls hP hS hl
  exact lv_iconst hx hb d hv (k H locs ls hP hS hl)
theorem kx_bipush {own : String} {cc : ByteArray} {nL dp : Nat} {F : kx_F} (C : kx_Ru own cc nL dp F) {pc : Nat} {L : List (Option Value)} {S : List Value} {h : kx_H} {n : Int} {v : Int32} (d : decode cc pc = .ok (.bipush n, 2)) (hv : (Int8.ofInt n).toInt32 = v) (k : F (pc + 2) L (.int v :: S) h) : F pc L S h := by
  obtain ⟨p, l, e, R, s, m, args, below, meth, c, cells, slots, Q, D, ad, cA, A, ⟨hx, hb, hml, hown, hts⟩, hN, hK, hJ, hA, hR, rfl⟩ := C
  intro H locs ls hP hS hl
  exact lv_bipush hx hb d hv (k H locs ls hP hS hl)
theorem kx_sipush {own : String} {cc : ByteArray} {nL dp : Nat} {F : kx_F} (C : kx_Ru own cc nL dp F) {pc : Nat} {L : List (Option Value)} {S : List Value} {h : kx_H} {n : Int} {v : Int32} (d : decode cc pc = .ok (.sipush n, 3)) (hv : (Int16.ofInt n).toInt32 = v) (k : F (pc + 3) L (.int v :: S) h) : F pc L S h := by
  obtain ⟨p, l, e, R, s, m, args, below, meth, c, cells, slots, Q, D, ad, cA, A, ⟨hx, hb, hml, hown, hts⟩, hN, hK, hJ, hA, hR, rfl⟩ := C
  intro H locs ls hP hS hl
  exact lv_sipush hx hb d hv (k H locs ls hP hS hl)
theorem kx_lconst {own : String} {cc : ByteArray} {nL dp : Nat} {F : kx_F} (C : kx_Ru own cc nL dp F) {pc : Nat} {L : List (Option Value)} {S : List Value} {h : kx_H} {n : Fin 2} {v : Int64} (d : decode cc pc = .ok (.lconst n, 1)) (hv : Int64.ofNat (n : Nat) = v) (k : F (pc + 1) L (.long v :: S) h) : F pc L S h := by
  obtain ⟨p, l, e, R, s, m, args, below, meth, c, cells, slots, Q, D, ad, cA, A, ⟨hx, hb, hml, hown, hts⟩, hN, hK, hJ, hA, hR, rfl⟩ := C
  intro H locs ls hP hS hl
  exact lv_lconst hx hb d hv (k H locs ls hP hS hl)
theorem kx_ldc {own : String} {cc : ByteArray} {nL dp : Nat} {F : kx_F} (C : kx_Ru own cc nL dp F) {pc : Nat} {L : List (Option Value)} {S : List Value} {h : kx_H} {i : Nat} {v : Int32} (d : decode cc pc = .ok (.ldc i, 2)) (hc : Cond.constant own i v ∈ kx_tb) (k : F (pc + 2) L (.int v :: S) h) : F pc L S h := by
  obtain ⟨p, l, e, R, s, m, args, below, meth, c, cells, slots, Q, D, ad, cA, A, ⟨hx, hb, hml, hown, hts⟩, hN, hK, hJ, hA, hR, rfl⟩ := C
  intro H locs ls hP hS hl
  exact lv_ldc hx hb hown (hts _ hc) d (k H locs ls hP hS hl)
theorem kx_ldcw {own : String} {cc : ByteArray} {nL dp : Nat} {F : kx_F} (C : kx_Ru own cc nL dp F) {pc : Nat} {L : List (Option Value)} {S : List Value} {h : kx_H} {i : Nat} {v : Int32} (d : decode cc pc = .ok (.ldc_w i, 3)) (hc : Cond.constant own i v ∈ kx_tb) (k : F (pc + 3) L (.int v :: S) h) : F pc L S h := by
  obtain ⟨p, l, e, R, s, m, args, below, meth, c, cells, slots, Q, D, ad, cA, A, ⟨hx, hb, hml, hown, hts⟩, hN, hK, hJ, hA, hR, rfl⟩ := C
  intro H locs ls hP hS hl
  exact lv_ldcw hx hb hown (hts _ hc) d (k H locs ls hP hS hl)
theorem kx_ldc2 {own : String} {cc : ByteArray} {nL dp : Nat} {F : kx_F} (C : kx_Ru own cc nL dp F) {pc : Nat} {L : List (Option Value)} {S : List Value} {h : kx_H} {i : Nat} {v : Int64} (d : decode cc pc = .ok (.ldc2_w i, 3)) (hc : Cond.constantLong own i v ∈ kx_tb) (k : F (pc + 3) L (.long v :: S) h) : F pc L S h := by
  obtain ⟨p, l, e, R, s, m, args, below, meth, c, cells, slots, Q, D, ad, cA, A, ⟨hx, hb, hml, hown, hts⟩, hN, hK, hJ, hA, hR, rfl⟩ := C
  intro H locs ls hP hS hl
  exact lv_ldc2 hx hb hown (hts _ hc) d (k H locs ls hP hS hl)
theorem kx_iload_g {own : String} {cc : ByteArray} {nL dp : Nat} {F : kx_F} (C : kx_Ru own cc nL dp F) {pc : Nat} {L : List (Option Value)} {S : List Value} {h : kx_H} {i : Nat} {x : Int32} (d : decode cc pc = .ok (.iload i, 2)) (hi : L[i]? = some (some (.int x))) (k : F (pc + 2) L (.int x :: S) h) : F pc L S h := by
  obtain ⟨p, l, e, R, s, m, args, below, meth, c, cells, slots, Q, D, ad, cA, A, ⟨hx, hb, hml, hown, hts⟩, hN, hK, hJ, hA, hR, rfl⟩ := C
  intro H locs ls hP hS hl
  exact lv_iload hx hb d (kx_lo_at hl hi) (k H locs ls hP hS hl)
theorem kx_iloadn_g {own : String} {cc : ByteArray} {nL dp : Nat} {F : kx_F} (C : kx_Ru own cc nL dp F) {pc : Nat} {L : List (Option Value)} {S : List Value} {h : kx_H} {j : Fin 4} {x : Int32} (d : decode cc pc = .ok (.iload_n j, 1)) (hi : L[(j : Nat)]? = some (some (.int x))) (k : F (pc + 1) L (.int x :: S) h) : F pc L S h := by
  obtain ⟨p, l, e, R, s, m, args, below, meth, c, cells, slots, Q, D, ad, cA, A, ⟨hx, hb, hml, hown, hts⟩, hN, hK, hJ, hA, hR, rfl⟩ := C
  intro H locs ls hP hS hl
  exact lv_iload_n hx hb d rfl (kx_lo_at hl hi) (k H locs ls hP hS hl)
theorem kx_lload_g {own : String} {cc : ByteArray} {nL dp : Nat} {F : kx_F} (C : kx_Ru own cc nL dp F) {pc : Nat} {L : List (Option Value)} {S : List Value} {h : kx_H} {i : Nat} {x : Int64} (d : decode cc pc = .ok (.lload i, 2)) (hi : L[i]? = some (some (.long x))) (k : F (pc + 2) L (.long x :: S) h) : F pc L S h := by
  obtain ⟨p, l, e, R, s, m, args, below, meth, c, cells, slots, Q, D, ad, cA, A, ⟨hx, hb, hml, hown, hts⟩, hN, hK, hJ, hA, hR, rfl⟩ := C
  intro H locs ls hP hS hl
  exact lv_lload hx hb d (kx_lo_at hl hi) (k H locs ls hP hS hl)
theorem kx_lloadn_g {own : String} {cc : ByteArray} {nL dp : Nat} {F : kx_F} (C : kx_Ru own cc nL dp F) {pc : Nat} {L : List (Option Value)} {S : List Value} {h : kx_H} {j : Fin 4} {x : Int64} (d : decode cc pc = .ok (.lload_n j, 1)) (hi : L[(j : Nat)]? = some (some (.long x))) (k : F (pc + 1) L (.long x :: S) h) : F pc L S h := by
  obtain ⟨p, l, e, R, s, m, args, below, meth, c, cells, slots, Q, D, ad, cA, A, ⟨hx, hb, hml, hown, hts⟩, hN, hK, hJ, hA, hR, rfl⟩ := C
  intro H locs ls hP hS hl
  exact lv_lload_n hx hb d rfl (kx_lo_at hl hi) (k H locs ls hP hS hl)
theorem kx_aload_g {own : String} {cc : ByteArray} {nL dp : Nat} {F : kx_F} (C : kx_Ru own cc nL dp F) {pc : Nat} {L : List (Option Value)} {S : List Value} {h : kx_H} {i : Nat} {x : Nat} (d : decode cc pc = .ok (.aload i, 2)) (hi : L[i]? = some (some (.ref x))) (k : F (pc + 2) L (.ref x :: S) h) : F pc L S h := by
  obtain ⟨p, l, e, R, s, m, args, below, meth, c, cells, slots, Q, D, ad, cA, A, ⟨hx, hb, hml, hown, hts⟩, hN, hK, hJ, hA, hR, rfl⟩ := C
  intro H locs ls hP hS hl
  exact lv_aload hx hb d (kx_lo_at hl hi) (k H locs ls hP hS hl)
theorem kx_aloadn_g {own : String} {cc : ByteArray} {nL dp : Nat} {F : kx_F} (C : kx_Ru own cc nL dp F) {pc : Nat} {L : List (Option Value)} {S : List Value} {h : kx_H} {j : Fin 4} {x : Nat} (d : decode cc pc = .ok (.aload_n j, 1)) (hi : L[(j : Nat)]? = some (some (.ref x))) (k : F (pc + 1) L (.ref x :: S) h) : F pc L S h := by
  obtain ⟨p, l, e, R, s, m, args, below, meth, c, cells, slots, Q, D, ad, cA, A, ⟨hx, hb, hml, hown, hts⟩, hN, hK, hJ, hA, hR, rfl⟩ := C
  intro H locs ls hP hS hl
  exact lv_aload_n hx hb d rfl (kx_lo_at hl hi) (k H locs ls hP hS hl)
theorem kx_istore_g {own : String} {cc : ByteArray} {nL dp : Nat} {F : kx_F} (C : kx_Ru own cc nL dp F) {pc : Nat} {L : List (Option Value)} {S : List Value} {h : kx_H} {i : Nat} {x : Int32} (d : decode cc pc = .ok (.istore i, 2)) (hn : i < nL) (hc : kx_nl L i = true) (k : F (pc + 2) (L.set i (some (.int x))) S h) : F pc L (.int x :: S) h := by
  obtain ⟨p, l, e, R, s, m, args, below, meth, c, cells, slots, Q, D, ad, cA, A, ⟨hx, hb, hml, hown, hts⟩, hN, hK, hJ, hA, hR, rfl⟩ := C
  intro H locs ls hP hS hl
  exact lv_istore hx hb d hl hn rfl (fun ls1 hl1 => k H locs ls1 hP hS (kx_lo_set (v := .int x) hc hl1))
theorem kx_istoren_g {own : String} {cc : ByteArray} {nL dp : Nat} {F : kx_F} (C : kx_Ru own cc nL dp F) {pc : Nat} {L : List (Option Value)} {S : List Value} {h : kx_H} {j : Fin 4} {x : Int32} (d : decode cc pc = .ok (.istore_n j, 1)) (hn : (j : Nat) < nL) (hc : kx_nl L (j : Nat) = true) (k : F (pc + 1) (L.set (j : Nat) (some (.int x))) S h) : F pc L (.int x :: S) h := by
  obtain ⟨p, l, e, R, s, m, args, below, meth, c, cells, slots, Q, D, ad, cA, A, ⟨hx, hb, hml, hown, hts⟩, hN, hK, hJ, hA, hR, rfl⟩ := C
  intro H locs ls hP hS hl
  exact lv_istore_n hx hb d rfl hl hn rfl (fun ls1 hl1 => k H locs ls1 hP hS (kx_lo_set (v := .int x) hc hl1))
theorem kx_astore_g {own : String} {cc : ByteArray} {nL dp : Nat} {F : kx_F} (C : kx_Ru own cc nL dp F) {pc : Nat} {L : List (Option Value)} {S : List Value} {h : kx_H} {i : Nat} {x : Nat} (d : decode cc pc = .ok (.astore i, 2)) (hn : i < nL) (hc : kx_nl L i = true) (k : F (pc + 2) (L.set i (some (.ref x))) S h) : F pc L (.ref x :: S) h := by
  obtain ⟨p, l, e, R, s, m, args, below, meth, c, cells, slots, Q, D, ad, cA, A, ⟨hx, hb, hml, hown, hts⟩, hN, hK, hJ, hA, hR, rfl⟩ := C
  intro H locs ls hP hS hl
  exact lv_astore hx hb d hl hn rfl (fun ls1 hl1 => k H locs ls1 hP hS (kx_lo_set (v := .ref x) hc hl1))
theorem kx_astoren_g {own : String} {cc : ByteArray} {nL dp : Nat} {F : kx_F} (C : kx_Ru own cc nL dp F) {pc : Nat} {L : List (Option Value)} {S : List Value} {h : kx_H} {j : Fin 4} {x : Nat} (d : decode cc pc = .ok (.astore_n j, 1)) (hn : (j : Nat) < nL) (hc : kx_nl L (j : Nat) = true) (k : F (pc + 1) (L.set (j : Nat) (some (.ref x))) S h) : F pc L (.ref x :: S) h := by
  obtain ⟨p, l, e, R, s, m, args, below, meth, c, cells, slots, Q, D, ad, cA, A, ⟨hx, hb, hml, hown, hts⟩, hN, hK, hJ, hA, hR, rfl⟩ := C
  intro H locs ls hP hS hl
  exact lv_astore_n hx hb d rfl hl hn rfl (fun ls1 hl1 => k H locs ls1 hP hS (kx_lo_set (v := .ref x) hc hl1))
theorem kx_iinc_g {own : String} {cc : ByteArray} {nL dp : Nat} {F : kx_F} (C : kx_Ru own cc nL dp F) {pc : Nat} {L : List (Option Value)} {S : List Value} {h : kx_H} {i : Nat} {n : Int} {x v : Int32} (d : decode cc pc = .ok (.iinc i n, 3)) (hi : L[i]? = some (some (.int x))) (hv : x + Int32.ofInt n = v) (hn : i < nL) (hc : kx_nl L i = true) (k : F (pc + 3) (L.set i (some (.int v))) S h) : F pc L S h := by
  obtain ⟨p, l, e, R, s, m, args, below, meth, c, cells, slots, Q, D, ad, cA, A, ⟨hx, hb, hml, hown, hts⟩, hN, hK, hJ, hA, hR, rfl⟩ := C
  intro H locs ls hP hS hl
  obtain ⟨q, hq⟩ := List.getElem?_of_mem ((kx_lv_mem (ad := ad) L 0).mpr ⟨i, .int x, hi, rfl⟩)
  rw [Nat.zero_add] at hq
  exact lv_iinc hx hb d hl hq hv hn rfl (fun ls1 hl1 => k H locs ls1 hP hS (kx_lo_set (v := .int v) hc hl1))
theorem kx_iadd {own : String} {cc : ByteArray} {nL dp : Nat} {F : kx_F} (C : kx_Ru own cc nL dp F) {pc : Nat} {L : List (Option Value)} {S : List Value} {h : kx_H} {x y : Int32} (d : decode cc pc = .ok (.iadd, 1)) (k : F (pc + 1) L (.int (x + y) :: S) h) : F pc L (.int y :: .int x :: S) h := by
  obtain ⟨p, l, e, R, s, m, args, below, meth, c, cells, slots, Q, D, ad, cA, A, ⟨hx, hb, hml, hown, hts⟩, hN, hK, hJ, hA, hR, rfl⟩ := C
  intro H locs ls hP hS hl
  exact lv_iadd hx hb d (k H locs ls hP hS hl)
theorem kx_isub {own : String} {cc : ByteArray} {nL dp : Nat} {F : kx_F} (C : kx_Ru own cc nL dp F) {pc : Nat} {L : List (Option Value)} {S : List Value} {h : kx_H} {x y : Int32} (d : decode cc pc = .ok (.isub, 1)) (k : F (pc + 1) L (.int (x - y) :: S) h) : F pc L (.int y :: .int x :: S) h := by
  obtain ⟨p, l, e, R, s, m, args, below, meth, c, cells, slots, Q, D, ad, cA, A, ⟨hx, hb, hml, hown, hts⟩, hN, hK, hJ, hA, hR, rfl⟩ := C
  intro H locs ls hP hS hl
  exact lv_isub hx hb d (k H locs ls hP hS hl)
theorem kx_imul {own : String} {cc : ByteArray} {nL dp : Nat} {F : kx_F} (C : kx_Ru own cc nL dp F) {pc : Nat} {L : List (Option Value)} {S : List Value} {h : kx_H} {x y : Int32} (d : decode cc pc = .ok (.imul, 1)) (k : F (pc + 1) L (.int (x * y) :: S) h) : F pc L (.int y :: .int x :: S) h := by
  obtain ⟨p, l, e, R, s, m, args, below, meth, c, cells, slots, Q, D, ad, cA, A, ⟨hx, hb, hml, hown, hts⟩, hN, hK, hJ, hA, hR, rfl⟩ := C
  intro H locs ls hP hS hl
  exact lv_imul hx hb d (k H locs ls hP hS hl)
theorem kx_iand {own : String} {cc : ByteArray} {nL dp : Nat} {F : kx_F} (C : kx_Ru own cc nL dp F) {pc : Nat} {L : List (Option Value)} {S : List Value} {h : kx_H} {x y : Int32} (d : decode cc pc = .ok (.iand, 1)) (k : F (pc + 1) L (.int (x &&& y) :: S) h) : F pc L (.int y :: .int x :: S) h := by
  obtain ⟨p, l, e, R, s, m, args, below, meth, c, cells, slots, Q, D, ad, cA, A, ⟨hx, hb, hml, hown, hts⟩, hN, hK, hJ, hA, hR, rfl⟩ := C
  intro H locs ls hP hS hl
  exact lv_iand hx hb d (k H locs ls hP hS hl)
theorem kx_ior {own : String} {cc : ByteArray} {nL dp : Nat} {F : kx_F} (C : kx_Ru own cc nL dp F) {pc : Nat} {L : List (Option Value)} {S : List Value} {h : kx_H} {x y : Int32} (d : decode cc pc = .ok (.ior, 1)) (k : F (pc + 1) L (.int (x ||| y) :: S) h) : F pc L (.int y :: .int x :: S) h := by
  obtain ⟨p, l, e, R, s, m, args, below, meth, c, cells, slots, Q, D, ad, cA, A, ⟨hx, hb, hml, hown, hts⟩, hN, hK, hJ, hA, hR, rfl⟩ := C
  intro H locs ls hP hS hl
  exact lv_ior hx hb d (k H locs ls hP hS hl)
theorem kx_ixor {own : String} {cc : ByteArray} {nL dp : Nat} {F : kx_F} (C : kx_Ru own cc nL dp F) {pc : Nat} {L : List (Option Value)} {S : List Value} {h : kx_H} {x y : Int32} (d : decode cc pc = .ok (.ixor, 1)) (k : F (pc + 1) L (.int (x ^^^ y) :: S) h) : F pc L (.int y :: .int x :: S) h := by
  obtain ⟨p, l, e, R, s, m, args, below, meth, c, cells, slots, Q, D, ad, cA, A, ⟨hx, hb, hml, hown, hts⟩, hN, hK, hJ, hA, hR, rfl⟩ := C
  intro H locs ls hP hS hl
  exact lv_ixor hx hb d (k H locs ls hP hS hl)
theorem kx_ishl {own : String} {cc : ByteArray} {nL dp : Nat} {F : kx_F} (C : kx_Ru own cc nL dp F) {pc : Nat} {L : List (Option Value)} {S : List Value} {h : kx_H} {x y : Int32} (d : decode cc pc = .ok (.ishl, 1)) (k : F (pc + 1) L (.int (x <<< (y &&& 31)) :: S) h) : F pc L (.int y :: .int x :: S) h := by
  obtain ⟨p, l, e, R, s, m, args, below, meth, c, cells, slots, Q, D, ad, cA, A, ⟨hx, hb, hml, hown, hts⟩, hN, hK, hJ, hA, hR, rfl⟩ := C
  intro H locs ls hP hS hl
  exact lv_ishl hx hb d (k H locs ls hP hS hl)
theorem kx_ishr {own : String} {cc : ByteArray} {nL dp : Nat} {F : kx_F} (C : kx_Ru own cc nL dp F) {pc : Nat} {L : List (Option Value)} {S : List Value} {h : kx_H} {x y : Int32} (d : decode cc pc = .ok (.ishr, 1)) (k : F (pc + 1) L (.int (x >>> (y &&& 31)) :: S) h) : F pc L (.int y :: .int x :: S) h := by
  obtain ⟨p, l, e, R, s, m, args, below, meth, c, cells, slots, Q, D, ad, cA, A, ⟨hx, hb, hml, hown, hts⟩, hN, hK, hJ, hA, hR, rfl⟩ := C
  intro H locs ls hP hS hl
  exact lv_ishr hx hb d (k H locs ls hP hS hl)
theorem kx_iushr {own : String} {cc : ByteArray} {nL dp : Nat} {F : kx_F} (C : kx_Ru own cc nL dp F) {pc : Nat} {L : List (Option Value)} {S : List Value} {h : kx_H} {x y : Int32} (d : decode cc pc = .ok (.iushr, 1)) (k : F (pc + 1) L (.int (x.toUInt32 >>> (y.toUInt32 &&& Int32.toUInt32 31)).toInt32 :: S) h) : F pc L (.int y :: .int x :: S) h := by
  obtain ⟨p, l, e, R, s, m, args, below, meth, c, cells, slots, Q, D, ad, cA, A, ⟨hx, hb, hml, hown, hts⟩, hN, hK, hJ, hA, hR, rfl⟩ := C
  intro H locs ls hP hS hl
  exact lv_iushr hx hb d rfl (k H locs ls hP hS hl)
theorem kx_idiv {own : String} {cc : ByteArray} {nL dp : Nat} {F : kx_F} (C : kx_Ru own cc nL dp F) {pc : Nat} {L : List (Option Value)} {S : List Value} {h : kx_H} {x y : Int32} (d : decode cc pc = .ok (.idiv, 1)) (hne : ¬ y = 0) (k : F (pc + 1) L (.int (x / y) :: S) h) : F pc L (.int y :: .int x :: S) h := by
  obtain ⟨p, l, e, R, s, m, args, below, meth, c, cells, slots, Q, D, ad, cA, A, ⟨hx, hb, hml, hown, hts⟩, hN, hK, hJ, hA, hR, rfl⟩ := C
  intro H locs ls hP hS hl
  exact lv_idiv hx hb d hne (k H locs ls hP hS hl)
theorem kx_irem {own : String} {cc : ByteArray} {nL dp : Nat} {F : kx_F} (C : kx_Ru own cc nL dp F) {pc : Nat} {L : List (Option Value)} {S : List Value} {h : kx_H} {x y : Int32} (d : decode cc pc = .ok (.irem, 1)) (hne : ¬ y = 0) (k : F (pc + 1) L (.int (x - x / y * y) :: S) h) : F pc L (.int y :: .int x :: S) h := by
  obtain ⟨p, l, e, R, s, m, args, below, meth, c, cells, slots, Q, D, ad, cA, A, ⟨hx, hb, hml, hown, hts⟩, hN, hK, hJ, hA, hR, rfl⟩ := C
  intro H locs ls hP hS hl
  exact lv_irem hx hb d hne (k H locs ls hP hS hl)
theorem kx_ladd {own : String} {cc : ByteArray} {nL dp : Nat} {F : kx_F} (C : kx_Ru own cc nL dp F) {pc : Nat} {L : List (Option Value)} {S : List Value} {h : kx_H} {x y : Int64} (d : decode cc pc = .ok (.ladd, 1)) (k : F (pc + 1) L (.long (x + y) :: S) h) : F pc L (.long y :: .long x :: S) h := by
  obtain ⟨p, l, e, R, s, m, args, below, meth, c, cells, slots, Q, D, ad, cA, A, ⟨hx, hb, hml, hown, hts⟩, hN, hK, hJ, hA, hR, rfl⟩ := C
  intro H locs ls hP hS hl
  exact lv_ladd hx hb d (k H locs ls hP hS hl)
theorem kx_land {own : String} {cc : ByteArray} {nL dp : Nat} {F : kx_F} (C : kx_Ru own cc nL dp F) {pc : Nat} {L : List (Option Value)} {S : List Value} {h : kx_H} {x y : Int64} (d : decode cc pc = .ok (.land, 1)) (k : F (pc + 1) L (.long (x &&& y) :: S) h) : F pc L (.long y :: .long x :: S) h := by
  obtain ⟨p, l, e, R, s, m, args, below, meth, c, cells, slots, Q, D, ad, cA, A, ⟨hx, hb, hml, hown, hts⟩, hN, hK, hJ, hA, hR, rfl⟩ := C
  intro H locs ls hP hS hl
  exact lv_land hx hb d (k H locs ls hP hS hl)
theorem kx_lor {own : String} {cc : ByteArray} {nL dp : Nat} {F : kx_F} (C : kx_Ru own cc nL dp F) {pc : Nat} {L : List (Option Value)} {S : List Value} {h : kx_H} {x y : Int64} (d : decode cc pc = .ok (.lor, 1)) (k : F (pc + 1) L (.long (x ||| y) :: S) h) : F pc L (.long y :: .long x :: S) h := by
  obtain ⟨p, l, e, R, s, m, args, below, meth, c, cells, slots, Q, D, ad, cA, A, ⟨hx, hb, hml, hown, hts⟩, hN, hK, hJ, hA, hR, rfl⟩ := C
  intro H locs ls hP hS hl
  exact lv_lor hx hb d (k H locs ls hP hS hl)
theorem kx_lshl {own : String} {cc : ByteArray} {nL dp : Nat} {F : kx_F} (C : kx_Ru own cc nL dp F) {pc : Nat} {L : List (Option Value)} {S : List Value} {h : kx_H} {x : Int64} {y : Int32} (d : decode cc pc = .ok (.lshl, 1)) (k : F (pc + 1) L (.long (x <<< (y.toInt64 &&& 63)) :: S) h) : F pc L (.int y :: .long x :: S) h := by
  obtain ⟨p, l, e, R, s, m, args, below, meth, c, cells, slots, Q, D, ad, cA, A, ⟨hx, hb, hml, hown, hts⟩, hN, hK, hJ, hA, hR, rfl⟩ := C
  intro H locs ls hP hS hl
  exact lv_lshl hx hb d rfl (k H locs ls hP hS hl)
theorem kx_lshr {own : String} {cc : ByteArray} {nL dp : Nat} {F : kx_F} (C : kx_Ru own cc nL dp F) {pc : Nat} {L : List (Option Value)} {S : List Value} {h : kx_H} {x : Int64} {y : Int32} (d : decode cc pc = .ok (.lshr, 1)) (k : F (pc + 1) L (.long (x >>> (y.toInt64 &&& 63)) :: S) h) : F pc L (.int y :: .long x :: S) h := by
  obtain ⟨p, l, e, R, s, m, args, below, meth, c, cells, slots, Q, D, ad, cA, A, ⟨hx, hb, hml, hown, hts⟩, hN, hK, hJ, hA, hR, rfl⟩ := C
  intro H locs ls hP hS hl
  exact lv_lshr hx hb d rfl (k H locs ls hP hS hl)
theorem kx_lushr {own : String} {cc : ByteArray} {nL dp : Nat} {F : kx_F} (C : kx_Ru own cc nL dp F) {pc : Nat} {L : List (Option Value)} {S : List Value} {h : kx_H} {x : Int64} {y : Int32} (d : decode cc pc = .ok (.lushr, 1)) (k : F (pc + 1) L (.long (x.toUInt64 >>> (y.toInt64.toUInt64 &&& Int64.toUInt64 63)).toInt64 :: S) h) : F pc L (.int y :: .long x :: S) h := by
  obtain ⟨p, l, e, R, s, m, args, below, meth, c, cells, slots, Q, D, ad, cA, A, ⟨hx, hb, hml, hown, hts⟩, hN, hK, hJ, hA, hR, rfl⟩ := C
  intro H locs ls hP hS hl
  exact lv_lushr hx hb d rfl (k H locs ls hP hS hl)
theorem kx_lcmp {own : String} {cc : ByteArray} {nL dp : Nat} {F : kx_F} (C : kx_Ru own cc nL dp F) {pc : Nat} {L : List (Option Value)} {S : List Value} {h : kx_H} {x y : Int64} (d : decode cc pc = .ok (.lcmp, 1)) (k : F (pc + 1) L (.int (lg_cmp x y) :: S) h) : F pc L (.long y :: .long x :: S) h := by
  obtain ⟨p, l, e, R, s, m, args, below, meth, c, cells, slots, Q, D, ad, cA, A, ⟨hx, hb, hml, hown, hts⟩, hN, hK, hJ, hA, hR, rfl⟩ := C
  intro H locs ls hP hS hl
  exact W.lcmp hx hb d (k H locs ls hP hS hl)
theorem kx_i2l {own : String} {cc : ByteArray} {nL dp : Nat} {F : kx_F} (C : kx_Ru own cc nL dp F) {pc : Nat} {L : List (Option Value)} {S : List Value} {h : kx_H} {x : Int32} (d : decode cc pc = .ok (.i2l, 1)) (k : F (pc + 1) L (.long x.toInt64 :: S) h) : F pc L (.int x :: S) h := by
  obtain ⟨p, l, e, R, s, m, args, below, meth, c, cells, slots, Q, D, ad, cA, A, ⟨hx, hb, hml, hown, hts⟩, hN, hK, hJ, hA, hR, rfl⟩ := C
  intro H locs ls hP hS hl
  exact lv_i2l hx hb d rfl (k H locs ls hP hS hl)
theorem kx_l2i {own : String} {cc : ByteArray} {nL dp : Nat} {F : kx_F} (C : kx_Ru own cc nL dp F) {pc : Nat} {L : List (Option Value)} {S : List Value} {h : kx_H} {x : Int64} (d : decode cc pc = .ok (.l2i, 1)) (k : F (pc + 1) L (.int x.toInt32 :: S) h) : F pc L (.long x :: S) h := by
  obtain ⟨p, l, e, R, s, m, args, below, meth, c, cells, slots, Q, D, ad, cA, A, ⟨hx, hb, hml, hown, hts⟩, hN, hK, hJ, hA, hR, rfl⟩ := C
  intro H locs ls hP hS hl
  exact lv_l2i hx hb d rfl (k H locs ls hP hS hl)
theorem kx_i2b {own : String} {cc : ByteArray} {nL dp : Nat} {F : kx_F} (C : kx_Ru own cc nL dp F) {pc : Nat} {L : List (Option Value)} {S : List Value} {h : kx_H} {x : Int32} (d : decode cc pc = .ok (.i2b, 1)) (k : F (pc + 1) L (.int x.toInt8.toInt32 :: S) h) : F pc L (.int x :: S) h := by
  obtain ⟨p, l, e, R, s, m, args, below, meth, c, cells, slots, Q, D, ad, cA, A, ⟨hx, hb, hml, hown, hts⟩, hN, hK, hJ, hA, hR, rfl⟩ := C
  intro H locs ls hP hS hl
  exact lv_i2b hx hb d rfl (k H locs ls hP hS hl)
theorem kx_i2s {own : String} {cc : ByteArray} {nL dp : Nat} {F : kx_F} (C : kx_Ru own cc nL dp F) {pc : Nat} {L : List (Option Value)} {S : List Value} {h : kx_H} {x : Int32} (d : decode cc pc = .ok (.i2s, 1)) (k : F (pc + 1) L (.int x.toInt16.toInt32 :: S) h) : F pc L (.int x :: S) h := by
  obtain ⟨p, l, e, R, s, m, args, below, meth, c, cells, slots, Q, D, ad, cA, A, ⟨hx, hb, hml, hown, hts⟩, hN, hK, hJ, hA, hR, rfl⟩ := C
  intro H locs ls hP hS hl
  exact lv_i2s hx hb d rfl (k H locs ls hP hS hl)
theorem kx_dup {own : String} {cc : ByteArray} {nL dp : Nat} {F : kx_F} (C : kx_Ru own cc nL dp F) {pc : Nat} {L : List (Option Value)} {S : List Value} {h : kx_H} {v : Value} (d : decode cc pc = .ok (.dup, 1)) (hv : v.category = 1) (k : F (pc + 1) L (v :: v :: S) h) : F pc L (v :: S) h := by
  obtain ⟨p, l, e, R, s, m, args, below, meth, c, cells, slots, Q, D, ad, cA, A, ⟨hx, hb, hml, hown, hts⟩, hN, hK, hJ, hA, hR, rfl⟩ := C
  intro H locs ls hP hS hl
  exact lv_dup hx hb d (by rw [kx_val_cat]; exact hv) (k H locs ls hP hS hl)
theorem kx_pop {own : String} {cc : ByteArray} {nL dp : Nat} {F : kx_F} (C : kx_Ru own cc nL dp F) {pc : Nat} {L : List (Option Value)} {S : List Value} {h : kx_H} {v : Value} (d : decode cc pc = .ok (.pop, 1)) (hv : v.category = 1) (k : F (pc + 1) L S h) : F pc L (v :: S) h := by
  obtain ⟨p, l, e, R, s, m, args, below, meth, c, cells, slots, Q, D, ad, cA, A, ⟨hx, hb, hml, hown, hts⟩, hN, hK, hJ, hA, hR, rfl⟩ := C
  intro H locs ls hP hS hl
  exact lv_pop hx hb d (by rw [kx_val_cat]; exact hv) (k H locs ls hP hS hl)
theorem kx_dup_x1 {own : String} {cc : ByteArray} {nL dp : Nat} {F : kx_F} (C : kx_Ru own cc nL dp F) {pc : Nat} {L : List (Option Value)} {S : List Value} {h : kx_H} {v w : Value} (d : decode cc pc = .ok (.dup_x1, 1)) (hv : v.category = 1) (hw : w.category = 1) (k : F (pc + 1) L (v :: w :: v :: S) h) : F pc L (v :: w :: S) h := by
  obtain ⟨p, l, e, R, s, m, args, below, meth, c, cells, slots, Q, D, ad, cA, A, ⟨hx, hb, hml, hown, hts⟩, hN, hK, hJ, hA, hR, rfl⟩ := C
  intro H locs ls hP hS hl
  exact lv_dup_x1 hx hb d (by rw [kx_val_cat]; exact hv) (by rw [kx_val_cat]; exact hw) (k H locs ls hP hS hl)
theorem kx_dup2 {own : String} {cc : ByteArray} {nL dp : Nat} {F : kx_F} (C : kx_Ru own cc nL dp F) {pc : Nat} {L : List (Option Value)} {S : List Value} {h : kx_H} {v w : Value} (d : decode cc pc = .ok (.dup2, 1)) (hv : v.category = 1) (hw : w.category = 1) (k : F (pc + 1) L (v :: w :: v :: w :: S) h) : F pc L (v :: w :: S) h := by
  obtain ⟨p, l, e, R, s, m, args, below, meth, c, cells, slots, Q, D, ad, cA, A, ⟨hx, hb, hml, hown, hts⟩, hN, hK, hJ, hA, hR, rfl⟩ := C
  intro H locs ls hP hS hl
  exact lv_dup2_11 hx hb d (by rw [kx_val_cat]; exact hv) (by rw [kx_val_cat]; exact hw) (k H locs ls hP hS hl)
theorem kx_top {own : String} {cc : ByteArray} {nL dp : Nat} {F : kx_F} (C : kx_Ru own cc nL dp F) {pc : Nat} {L : List (Option Value)} {S : List Value} {h : kx_H} {x y : Int32} (e : x = y) (k : F pc L (.int y :: S) h) : F pc L (.int x :: S) h := by rw [e]; exact k
theorem kx_icmp_eq {own : String} {cc : ByteArray} {nL dp : Nat} {F : kx_F} (C : kx_Ru own cc nL dp F) {pc : Nat} {L : List (Option Value)} {S : List Value} {h : kx_H} {x y : Int32} {off : Int} (tgt : Nat) (d : decode cc pc = .ok (.if_icmp .eq off, 3)) (ht : (pc : Int) + off = (tgt : Int)) (kt : x = y → F tgt L S h) (kf : ¬ x = y → F (pc + 3) L S h) : F pc L (.int y :: .int x :: S) h := by
  obtain ⟨p, l, e, R, s, m, args, below, meth, c, cells, slots, Q, D, ad, cA, A, ⟨hx, hb, hml, hown, hts⟩, hN, hK, hJ, hA, hR, rfl⟩ := C
  intro H locs ls hP hS hl
  exact lv_icmp_eq hx hb d ht (fun z => kt z H locs ls hP hS hl) (fun z => kf z H locs ls hP hS hl)
theorem kx_icmp_ne {own : String} {cc : ByteArray} {nL dp : Nat} {F : kx_F} (C : kx_Ru own cc nL dp F) {pc : Nat} {L : List (Option Value)} {S : List Value} {h : kx_H} {x y : Int32} {off : Int} (tgt : Nat) (d : decode cc pc = .ok (.if_icmp .ne off, 3)) (ht : (pc : Int) + off = (tgt : Int)) (kt : ¬ x = y → F tgt L S h) (kf : x = y → F (pc + 3) L S h) : F pc L (.int y :: .int x :: S) h := by
  obtain ⟨p, l, e, R, s, m, args, below, meth, c, cells, slots, Q, D, ad, cA, A, ⟨hx, hb, hml, hown, hts⟩, hN, hK, hJ, hA, hR, rfl⟩ := C
  intro H locs ls hP hS hl
  exact lv_icmp_ne hx hb d ht (fun z => kt z H locs ls hP hS hl) (fun z => kf z H locs ls hP hS hl)
theorem kx_icmp_lt {own : String} {cc : ByteArray} {nL dp : Nat} {F : kx_F} (C : kx_Ru own cc nL dp F) {pc : Nat} {L : List (Option Value)} {S : List Value} {h : kx_H} {x y : Int32} {off : Int} (tgt : Nat) (d : decode cc pc = .ok (.if_icmp .lt off, 3)) (ht : (pc : Int) + off = (tgt : Int)) (kt : x < y → F tgt L S h) (kf : ¬ x < y → F (pc + 3) L S h) : F pc L (.int y :: .int x :: S) h := by
  obtain ⟨p, l, e, R, s, m, args, below, meth, c, cells, slots, Q, D, ad, cA, A, ⟨hx, hb, hml, hown, hts⟩, hN, hK, hJ, hA, hR, rfl⟩ := C
  intro H locs ls hP hS hl
  exact lv_icmp_lt hx hb d ht (fun z => kt z H locs ls hP hS hl) (fun z => kf z H locs ls hP hS hl)
theorem kx_icmp_ge {own : String} {cc : ByteArray} {nL dp : Nat} {F : kx_F} (C : kx_Ru own cc nL dp F) {pc : Nat} {L : List (Option Value)} {S : List Value} {h : kx_H} {x y : Int32} {off : Int} (tgt : Nat) (d : decode cc pc = .ok (.if_icmp .ge off, 3)) (ht : (pc : Int) + off = (tgt : Int)) (kt : y ≤ x → F tgt L S h) (kf : ¬ y ≤ x → F (pc + 3) L S h) : F pc L (.int y :: .int x :: S) h := by
  obtain ⟨p, l, e, R, s, m, args, below, meth, c, cells, slots, Q, D, ad, cA, A, ⟨hx, hb, hml, hown, hts⟩, hN, hK, hJ, hA, hR, rfl⟩ := C
  intro H locs ls hP hS hl
  exact lv_icmp_ge hx hb d ht (fun z => kt z H locs ls hP hS hl) (fun z => kf z H locs ls hP hS hl)
theorem kx_icmp_gt {own : String} {cc : ByteArray} {nL dp : Nat} {F : kx_F} (C : kx_Ru own cc nL dp F) {pc : Nat} {L : List (Option Value)} {S : List Value} {h : kx_H} {x y : Int32} {off : Int} (tgt : Nat) (d : decode cc pc = .ok (.if_icmp .gt off, 3)) (ht : (pc : Int) + off = (tgt : Int)) (kt : y < x → F tgt L S h) (kf : ¬ y < x → F (pc + 3) L S h) : F pc L (.int y :: .int x :: S) h := by
  obtain ⟨p, l, e, R, s, m, args, below, meth, c, cells, slots, Q, D, ad, cA, A, ⟨hx, hb, hml, hown, hts⟩, hN, hK, hJ, hA, hR, rfl⟩ := C
  intro H locs ls hP hS hl
  exact lv_icmp_gt hx hb d ht (fun z => kt z H locs ls hP hS hl) (fun z => kf z H locs ls hP hS hl)
theorem kx_icmp_le {own : String} {cc : ByteArray} {nL dp : Nat} {F : kx_F} (C : kx_Ru own cc nL dp F) {pc : Nat} {L : List (Option Value)} {S : List Value} {h : kx_H} {x y : Int32} {off : Int} (tgt : Nat) (d : decode cc pc = .ok (.if_icmp .le off, 3)) (ht : (pc : Int) + off = (tgt : Int)) (kt : x ≤ y → F tgt L S h) (kf : ¬ x ≤ y → F (pc + 3) L S h) : F pc L (.int y :: .int x :: S) h := by
  obtain ⟨p, l, e, R, s, m, args, below, meth, c, cells, slots, Q, D, ad, cA, A, ⟨hx, hb, hml, hown, hts⟩, hN, hK, hJ, hA, hR, rfl⟩ := C
  intro H locs ls hP hS hl
  exact lv_icmp_le hx hb d ht (fun z => kt z H locs ls hP hS hl) (fun z => kf z H locs ls hP hS hl)
theorem kx_if_eq {own : String} {cc : ByteArray} {nL dp : Nat} {F : kx_F} (C : kx_Ru own cc nL dp F) {pc : Nat} {L : List (Option Value)} {S : List Value} {h : kx_H} {x : Int32} {off : Int} (tgt : Nat) (d : decode cc pc = .ok (.ifCond .eq off, 3)) (ht : (pc : Int) + off = (tgt : Int)) (kt : x = 0 → F tgt L S h) (kf : ¬ x = 0 → F (pc + 3) L S h) : F pc L (.int x :: S) h := by
  obtain ⟨p, l, e, R, s, m, args, below, meth, c, cells, slots, Q, D, ad, cA, A, ⟨hx, hb, hml, hown, hts⟩, hN, hK, hJ, hA, hR, rfl⟩ := C
  intro H locs ls hP hS hl
  exact lv_if_eq hx hb d ht (fun z => kt z H locs ls hP hS hl) (fun z => kf z H locs ls hP hS hl)
theorem kx_if_ne {own : String} {cc : ByteArray} {nL dp : Nat} {F : kx_F} (C : kx_Ru own cc nL dp F) {pc : Nat} {L : List (Option Value)} {S : List Value} {h : kx_H} {x : Int32} {off : Int} (tgt : Nat) (d : decode cc pc = .ok (.ifCond .ne off, 3)) (ht : (pc : Int) + off = (tgt : Int)) (kt : ¬ x = 0 → F tgt L S h) (kf : x = 0 → F (pc + 3) L S h) : F pc L (.int x :: S) h := by
  obtain ⟨p, l, e, R, s, m, args, below, meth, c, cells, slots, Q, D, ad, cA, A, ⟨hx, hb, hml, hown, hts⟩, hN, hK, hJ, hA, hR, rfl⟩ := C
  intro H locs ls hP hS hl
  exact lv_if_ne hx hb d ht (fun z => kt z H locs ls hP hS hl) (fun z => kf z H locs ls hP hS hl)
theorem kx_if_lt {own : String} {cc : ByteArray} {nL dp : Nat} {F : kx_F} (C : kx_Ru own cc nL dp F) {pc : Nat} {L : List (Option Value)} {S : List Value} {h : kx_H} {x : Int32} {off : Int} (tgt : Nat) (d : decode cc pc = .ok (.ifCond .lt off, 3)) (ht : (pc : Int) + off = (tgt : Int)) (kt : x < 0 → F tgt L S h) (kf : ¬ x < 0 → F (pc + 3) L S h) : F pc L (.int x :: S) h := by
  obtain ⟨p, l, e, R, s, m, args, below, meth, c, cells, slots, Q, D, ad, cA, A, ⟨hx, hb, hml, hown, hts⟩, hN, hK, hJ, hA, hR, rfl⟩ := C
  intro H locs ls hP hS hl
  exact lv_if_lt hx hb d ht (fun z => kt z H locs ls hP hS hl) (fun z => kf z H locs ls hP hS hl)
theorem kx_if_ge {own : String} {cc : ByteArray} {nL dp : Nat} {F : kx_F} (C : kx_Ru own cc nL dp F) {pc : Nat} {L : List (Option Value)} {S : List Value} {h : kx_H} {x : Int32} {off : Int} (tgt : Nat) (d : decode cc pc = .ok (.ifCond .ge off, 3)) (ht : (pc : Int) + off = (tgt : Int)) (kt : 0 ≤ x → F tgt L S h) (kf : ¬ 0 ≤ x → F (pc + 3) L S h) : F pc L (.int x :: S) h := by
  obtain ⟨p, l, e, R, s, m, args, below, meth, c, cells, slots, Q, D, ad, cA, A, ⟨hx, hb, hml, hown, hts⟩, hN, hK, hJ, hA, hR, rfl⟩ := C
  intro H locs ls hP hS hl
  exact lv_if_ge hx hb d ht (fun z => kt z H locs ls hP hS hl) (fun z => kf z H locs ls hP hS hl)
theorem kx_if_gt {own : String} {cc : ByteArray} {nL dp : Nat} {F : kx_F} (C : kx_Ru own cc nL dp F) {pc : Nat} {L : List (Option Value)} {S : List Value} {h : kx_H} {x : Int32} {off : Int} (tgt : Nat) (d : decode cc pc = .ok (.ifCond .gt off, 3)) (ht : (pc : Int) + off = (tgt : Int)) (kt : 0 < x → F tgt L S h) (kf : ¬ 0 < x → F (pc + 3) L S h) : F pc L (.int x :: S) h := by
  obtain ⟨p, l, e, R, s, m, args, below, meth, c, cells, slots, Q, D, ad, cA, A, ⟨hx, hb, hml, hown, hts⟩, hN, hK, hJ, hA, hR, rfl⟩ := C
  intro H locs ls hP hS hl
  exact lv_if_gt hx hb d ht (fun z => kt z H locs ls hP hS hl) (fun z => kf z H locs ls hP hS hl)
theorem kx_if_le {own : String} {cc : ByteArray} {nL dp : Nat} {F : kx_F} (C : kx_Ru own cc nL dp F) {pc : Nat} {L : List (Option Value)} {S : List Value} {h : kx_H} {x : Int32} {off : Int} (tgt : Nat) (d : decode cc pc = .ok (.ifCond .le off, 3)) (ht : (pc : Int) + off = (tgt : Int)) (kt : x ≤ 0 → F tgt L S h) (kf : ¬ x ≤ 0 → F (pc + 3) L S h) : F pc L (.int x :: S) h := by
  obtain ⟨p, l, e, R, s, m, args, below, meth, c, cells, slots, Q, D, ad, cA, A, ⟨hx, hb, hml, hown, hts⟩, hN, hK, hJ, hA, hR, rfl⟩ := C
  intro H locs ls hP hS hl
  exact lv_if_le hx hb d ht (fun z => kt z H locs ls hP hS hl) (fun z => kf z H locs ls hP hS hl)
theorem kx_goto {own : String} {cc : ByteArray} {nL dp : Nat} {F : kx_F} (C : kx_Ru own cc nL dp F) {pc : Nat} {L : List (Option Value)} {S : List Value} {h : kx_H} {off : Int} (tgt : Nat) (d : decode cc pc = .ok (.goto off, 3)) (ht : (pc : Int) + off = (tgt : Int)) (k : F tgt L S h) : F pc L S h := by
  obtain ⟨p, l, e, R, s, m, args, below, meth, c, cells, slots, Q, D, ad, cA, A, ⟨hx, hb, hml, hown, hts⟩, hN, hK, hJ, hA, hR, rfl⟩ := C
  intro H locs ls hP hS hl
  exact lv_goto hx hb d ht (k H locs ls hP hS hl)
theorem kx_tblIn {own : String} {cc : ByteArray} {nL dp : Nat} {F : kx_F} (C : kx_Ru own cc nL dp F) {pc : Nat} {L : List (Option Value)} {S : List Value} {h : kx_H} {dflt lo hi : Int} {offs : Array Int} {len : Nat} {x : Int32} {off : Int} (tgt : Nat) (d : decode cc pc = .ok (.tableswitch dflt lo hi offs, len)) (h1 : ¬ x.toInt < lo) (h2 : ¬ hi < x.toInt) (ho : offs[(x.toInt - lo).toNat]? = some off) (ht : (pc : Int) + off = (tgt : Int)) (k : F tgt L S h) : F pc L (.int x :: S) h := by
  obtain ⟨p, l, e, R, s, m, args, below, meth, c, cells, slots, Q, D, ad, cA, A, ⟨hx, hb, hml, hown, hts⟩, hN, hK, hJ, hA, hR, rfl⟩ := C
  intro H locs ls hP hS hl
  exact lv_tableIn hx hb d h1 h2 ho ht (k H locs ls hP hS hl)
theorem kx_tblOut {own : String} {cc : ByteArray} {nL dp : Nat} {F : kx_F} (C : kx_Ru own cc nL dp F) {pc : Nat} {L : List (Option Value)} {S : List Value} {h : kx_H} {dflt lo hi : Int} {offs : Array Int} {len : Nat} {x : Int32} (tgt : Nat) (d : decode cc pc = .ok (.tableswitch dflt lo hi offs, len)) (h1 : x.toInt < lo ∨ hi < x.toInt) (ht : (pc : Int) + dflt = (tgt : Int)) (k : F tgt L S h) : F pc L (.int x :: S) h := by
  obtain ⟨p, l, e, R, s, m, args, below, meth, c, cells, slots, Q, D, ad, cA, A, ⟨hx, hb, hml, hown, hts⟩, hN, hK, hJ, hA, hR, rfl⟩ := C
  intro H locs ls hP hS hl
  exact lv_tableOut hx hb d h1 ht (k H locs ls hP hS hl)
end
section
/-! cells: which fields, which arrays -/
def kx_vw (ci : Nat) : vw_C := vwCl.getD ci (RX0, TX0, 0)
def kx_fd (i ci k : Nat) (f : Option Nat) : Prop := i < 142 ∧ (kx_sh i).1 = 0 ∧ (kx_sh i).2.1 = ci ∧ (kx_sh i).2.2.2.2[k]? = some f
def kx_ob (i ci : Nat) : Prop := i < 142 ∧ (kx_sh i).1 = 0 ∧ (kx_sh i).2.1 = ci
def kx_ia (i n : Nat) : Prop := i < 142 ∧ (kx_sh i).1 = 1 ∧ (kx_sh i).2.1 = n ∧ n < 1000
def kx_za (i n : Nat) : Prop := i < 142 ∧ (kx_sh i).1 = 2 ∧ (kx_sh i).2.1 = n ∧ n < 1000
def kx_ra (i b st n : Nat) : Prop := i < 142 ∧ ((kx_sh i).1 = 3 ∨ (kx_sh i).1 = 4) ∧ (kx_sh i).2.1 = b ∧ (kx_sh i).2.2.1 = st ∧ (kx_sh i).2.2.2.1 = n ∧ n < 1000
/-- a field reference: of class ci the k-th field, as the tables have it -/
def kx_FL (own : String) (idx ci k : Nat) : Prop := vwCl[ci]? = some (kx_vw ci) ∧ k < (kx_vw ci).2.2 ∧ Cond.fieldLink own idx ((kx_vw ci).2.1 k).1 ((kx_vw ci).2.1 k).2.1 ((kx_vw ci).2.1 k).2.2.1 ∈ kx_tb ∧ ∀ w ∈ u_ws (kx_vw ci).1 (kx_vw ci).2.1 (kx_vw ci).2.2, w ∈ kx_tb
/-- one that is written: not final, of a type -/
def kx_FP (ci k : Nat) (ty : FieldType) : Prop := ((kx_vw ci).2.1 k).2.2.2 = false ∧ parseFieldDescriptor ((kx_vw ci).2.1 k).2.2.1 = some ty ∧ (∃ ty0 : Nat → FieldType, ∀ j, j < (kx_vw ci).2.2 → parseFieldDescriptor ((kx_vw ci).2.1 j).2.2.1 = some (ty0 j)) ∧ ∀ a, a < (kx_vw ci).2.2 → ∀ b, b < (kx_vw ci).2.2 → a ≠ b → ((kx_vw ci).2.1 a).2.1 ≠ ((kx_vw ci).2.1 b).2.1
theorem kx_cell_o {ad : Nat → Nat} {c : ClassId} {f : Nat → Int32} {s : kx_S} (h : s.1 = 0) : kx_cell ad c f s = .inr (s.2.1, kx_fs ad f 0 s.2.2.2.2) := if_pos h
theorem kx_cell_i {ad : Nat → Nat} {c : ClassId} {f : Nat → Int32} {s : kx_S} (h : s.1 = 1 ∨ s.1 = 2) : kx_cell ad c f s = .inl (c, s.2.1, .inl f) := by
  unfold kx_cell
  rw [if_neg (by omega), if_pos h]
theorem kx_cell_r {ad : Nat → Nat} {c : ClassId} {f : Nat → Int32} {s : kx_S} (h : s.1 = 3 ∨ s.1 = 4) : kx_cell ad c f s = .inl (c, s.2.2.2.1, .inr (.inr (.inr (.inr (fun j => some (ad (s.2.1 + s.2.2.1 * j))))))) := by
  unfold kx_cell
  rw [if_neg (by omega), if_neg (by omega)]
theorem kx_up_o {h : kx_H} {i k : Nat} {v : Int32} (b : Nat) (hb : b ≠ i) : kx_up h i k v b = h b := by
  funext j
  simp [kx_up, hb]
theorem kx_up_i {h : kx_H} {i k : Nat} {v : Int32} : kx_up h i k v i = fun j => if j = k then v else h i j := by
  funext j
  simp [kx_up]
theorem kx_in_nI {j n : Nat} (h : j < n) (hn : n < 1000) : vp_in (nI j) n := vp_in_nI h (by omega)
theorem kx_cl_nI {j n : Nat} (h : j < n) (hn : n < 1000) : (nI j).toNatClampNeg = j := nI_clamp (by omega)

theorem kx_geti {own : String} {cc : ByteArray} {nL dp : Nat} {F : kx_F} (C : kx_Ru own cc nL dp F) {pc : Nat} {L : List (Option Value)} {S : List Value} {h : kx_H} {idx i ci k : Nat} {v : Int32} (fl : kx_FL own idx ci k) (ho : kx_fd i ci k none) (hv : h i k = v) (d : decode cc pc = .ok (.getfield idx, 3)) (kk : F (pc + 3) L (.int v :: S) h) : F pc L (.ref i :: S) h := by
  obtain ⟨p, l, e, R, s, m, args, below, meth, c, cells, slots, Q, D, ad, cA, A, ⟨hx, hb, hml, hown, hts⟩, hN, hK, hJ, hA, hR, rfl⟩ := C
  intro H locs ls hP hS hl
  obtain ⟨f1, f2, f3, f4⟩ := fl
  obtain ⟨o1, o2, o3, o4⟩ := ho
  subst hv
  have he := kx_wl_at (ad := ad) (cA := cA) (h := h) o1
  rw [kx_cell_o o2, o3] at he
  have hv := kx_fs_int ad (h i) 0 _ k o4
  rw [Nat.zero_add] at hv
  exact va_get hx hb hts f4 hown hK hP i he f1 k f2 (hts _ f3) (fun _ z => z) hv d (kk H locs ls hP hS hl)
theorem kx_getr {own : String} {cc : ByteArray} {nL dp : Nat} {F : kx_F} (C : kx_Ru own cc nL dp F) {pc : Nat} {L : List (Option Value)} {S : List Value} {h : kx_H} {idx i ci k j : Nat} (fl : kx_FL own idx ci k) (ho : kx_fd i ci k (some j)) (d : decode cc pc = .ok (.getfield idx, 3)) (kk : F (pc + 3) L (.ref j :: S) h) : F pc L (.ref i :: S) h := by
  obtain ⟨p, l, e, R, s, m, args, below, meth, c, cells, slots, Q, D, ad, cA, A, ⟨hx, hb, hml, hown, hts⟩, hN, hK, hJ, hA, hR, rfl⟩ := C
  intro H locs ls hP hS hl
  obtain ⟨f1, f2, f3, f4⟩ := fl
  obtain ⟨o1, o2, o3, o4⟩ := ho
  have he := kx_wl_at (ad := ad) (cA := cA) (h := h) o1
  rw [kx_cell_o o2, o3] at he
  have hv := kx_fs_ref ad (h i) 0 _ k j o4
  exact va_get hx hb hts f4 hown hK hP i he f1 k f2 (hts _ f3) (fun _ z => z) hv d (kk H locs ls hP hS hl)
theorem kx_puti {own : String} {cc : ByteArray} {nL dp : Nat} {F : kx_F} (C : kx_Ru own cc nL dp F) {pc : Nat} {L : List (Option Value)} {S : List Value} {h : kx_H} {idx i ci k : Nat} {ty : FieldType} {v : Int32} (fl : kx_FL own idx ci k) (fp : kx_FP ci k ty) (ho : kx_fd i ci k none) (hn : narrow ty (.int v) = .int v) (hf : fits ty (.int v) = true) (d : decode cc pc = .ok (.putfield idx, 3)) (kk : F (pc + 3) L S (kx_up h i k v)) : F pc L (.int v :: .ref i :: S) h := by
  obtain ⟨p, l, e, R, s, m, args, below, meth, c, cells, slots, Q, D, ad, cA, A, ⟨hx, hb, hml, hown, hts⟩, hN, hK, hJ, hA, hR, rfl⟩ := C
  intro H locs ls hP hS hl
  obtain ⟨f1, f2, f3, f4⟩ := fl
  obtain ⟨o1, o2, o3, o4⟩ := ho
  obtain ⟨p1, p2, ⟨ty0, p3⟩, p4⟩ := fp
  have he := kx_wl_at (ad := ad) (cA := cA) (h := h) o1
  rw [kx_cell_o o2, o3] at he
  have hl2 : k < (kx_fs ad (h i) 0 (kx_sh i).2.2.2.2).length := by rw [kx_fs_len]; exact (List.getElem?_eq_some_iff.mp o4).1
  have hset := kx_fs_set ad (h i) v 0 _ k o4
  rw [Nat.zero_add] at hset
  refine va_put (v := .int v) hx hb hts f4 ty0 p3 p4 hown hK hP (kx_wl_D hJ hA) hS i he f1 k f2 (hts _ f3) (fun _ z => z) p1 p2 hn hf hl2 d (fun H1 locs1 hP1 hD1 hS1 => ?_)
  rw [hset, kx_wl_set (h' := kx_up h i k v) o1 (by rw [kx_cell_o o2, o3, kx_up_i]) (fun b hb => kx_up_o b hb)] at hP1
  exact kk H1 locs1 ls hP1 hS1 hl
theorem kx_iald {own : String} {cc : ByteArray} {nL dp : Nat} {F : kx_F} (C : kx_Ru own cc nL dp F) {pc : Nat} {L : List (Option Value)} {S : List Value} {h : kx_H} {i j n : Nat} {v : Int32} (hs : kx_ia i n) (hj : j < n) (hv : h i j = v) (d : decode cc pc = .ok (.iaload, 1)) (kk : F (pc + 1) L (.int v :: S) h) : F pc L (.int (nI j) :: .ref i :: S) h := by
  obtain ⟨p, l, e, R, s, m, args, below, meth, c, cells, slots, Q, D, ad, cA, A, ⟨hx, hb, hml, hown, hts⟩, hN, hK, hJ, hA, hR, rfl⟩ := C
  intro H locs ls hP hS hl
  obtain ⟨o1, o2, o3, o4⟩ := hs
  subst hv
  have he := kx_wl_at (ad := ad) (cA := cA) (h := h) o1
  rw [kx_cell_i (Or.inl o2), o3] at he
  have ht := kx_tys_at (cA := cA) o1
  rw [show kx_ty i = .int by simp [kx_ty, o2]] at ht
  refine va_iald hx hb hK hP i i he ht (kx_in_nI hj o4) d ?_
  rw [kx_cl_nI hj o4]
  exact kk H locs ls hP hS hl
theorem kx_zald {own : String} {cc : ByteArray} {nL dp : Nat} {F : kx_F} (C : kx_Ru own cc nL dp F) {pc : Nat} {L : List (Option Value)} {S : List Value} {h : kx_H} {i j n : Nat} {v : Int32} (hs : kx_za i n) (hj : j < n) (hv : h i j = v) (d : decode cc pc = .ok (.baload, 1)) (kk : F (pc + 1) L (.int v :: S) h) : F pc L (.int (nI j) :: .ref i :: S) h := by
  obtain ⟨p, l, e, R, s, m, args, below, meth, c, cells, slots, Q, D, ad, cA, A, ⟨hx, hb, hml, hown, hts⟩, hN, hK, hJ, hA, hR, rfl⟩ := C
  intro H locs ls hP hS hl
  obtain ⟨o1, o2, o3, o4⟩ := hs
  subst hv
  have he := kx_wl_at (ad := ad) (cA := cA) (h := h) o1
  rw [kx_cell_i (Or.inr o2), o3] at he
  have ht := kx_tys_at (cA := cA) o1
  rw [show kx_ty i = .boolean by simp [kx_ty, o2]] at ht
  refine va_zald hx hb hK hP i i he ht (kx_in_nI hj o4) d ?_
  rw [kx_cl_nI hj o4]
  exact kk H locs ls hP hS hl
theorem kx_iast {own : String} {cc : ByteArray} {nL dp : Nat} {F : kx_F} (C : kx_Ru own cc nL dp F) {pc : Nat} {L : List (Option Value)} {S : List Value} {h : kx_H} {i j n : Nat} {v : Int32} (hs : kx_ia i n) (hj : j < n) (d : decode cc pc = .ok (.iastore, 1)) (kk : F (pc + 1) L S (kx_up h i j v)) : F pc L (.int v :: .int (nI j) :: .ref i :: S) h := by
  obtain ⟨p, l, e, R, s, m, args, below, meth, c, cells, slots, Q, D, ad, cA, A, ⟨hx, hb, hml, hown, hts⟩, hN, hK, hJ, hA, hR, rfl⟩ := C
  intro H locs ls hP hS hl
  obtain ⟨o1, o2, o3, o4⟩ := hs
  have he := kx_wl_at (ad := ad) (cA := cA) (h := h) o1
  rw [kx_cell_i (Or.inl o2), o3] at he
  have ht := kx_tys_at (cA := cA) o1
  rw [show kx_ty i = .int by simp [kx_ty, o2]] at ht
  refine va_iast hx hb hK hP (kx_wl_D hJ hA) hS i i he ht (kx_in_nI hj o4) d (fun H1 locs1 hP1 hD1 hS1 => ?_)
  rw [kx_cl_nI hj o4, kx_wl_set (h' := kx_up h i j v) o1 (by rw [kx_cell_i (Or.inl o2), o3, kx_up_i]; rfl) (fun b hb => kx_up_o b hb)] at hP1
  exact kk H1 locs1 ls hP1 hS1 hl
theorem kx_zast {own : String} {cc : ByteArray} {nL dp : Nat} {F : kx_F} (C : kx_Ru own cc nL dp F) {pc : Nat} {L : List (Option Value)} {S : List Value} {h : kx_H} {i j n : Nat} {v : Int32} (hs : kx_za i n) (hj : j < n) (hv : v = 0 ∨ v = 1) (d : decode cc pc = .ok (.bastore, 1)) (kk : F (pc + 1) L S (kx_up h i j v)) : F pc L (.int v :: .int (nI j) :: .ref i :: S) h := by
  obtain ⟨p, l, e, R, s, m, args, below, meth, c, cells, slots, Q, D, ad, cA, A, ⟨hx, hb, hml, hown, hts⟩, hN, hK, hJ, hA, hR, rfl⟩ := C
  intro H locs ls hP hS hl
  obtain ⟨o1, o2, o3, o4⟩ := hs
  have he := kx_wl_at (ad := ad) (cA := cA) (h := h) o1
  rw [kx_cell_i (Or.inr o2), o3] at he
  have ht := kx_tys_at (cA := cA) o1
  rw [show kx_ty i = .boolean by simp [kx_ty, o2]] at ht
  have hvn : vp_nar .boolean v = v := by rcases hv with rfl | rfl <;> rfl
  refine va_zast hx hb hK hP (kx_wl_D hJ hA) hS i i he ht (kx_in_nI hj o4) d (fun H1 locs1 hP1 hD1 hS1 => ?_)
  rw [hvn, kx_cl_nI hj o4, kx_wl_set (h' := kx_up h i j v) o1 (by rw [kx_cell_i (Or.inr o2), o3, kx_up_i]; rfl) (fun b hb => kx_up_o b hb)] at hP1
  exact kk H1 locs1 ls hP1 hS1 hl
theorem kx_aald {own : String} {cc : ByteArray} {nL dp : Nat} {F : kx_F} (C : kx_Ru own cc nL dp F) {pc : Nat} {L : List (Option Value)} {S : List Value} {h : kx_H} {i j b st n : Nat} (hs : kx_ra i b st n) (hj : j < n) (d : decode cc pc = .ok (.aaload, 1)) (kk : F (pc + 1) L (.ref (b + st * j) :: S) h) : F pc L (.int (nI j) :: .ref i :: S) h := by
  obtain ⟨p, l, e, R, s, m, args, below, meth, c, cells, slots, Q, D, ad, cA, A, ⟨hx, hb, hml, hown, hts⟩, hN, hK, hJ, hA, hR, rfl⟩ := C
  intro H locs ls hP hS hl
  obtain ⟨o1, o2, o3, o5, o6, o4⟩ := hs
  have he := kx_wl_at (ad := ad) (cA := cA) (h := h) o1
  rw [kx_cell_r o2, o3, o5, o6] at he
  have ht := kx_tys_at (cA := cA) o1
  have hty : (kx_ty i).isReference = true := by
    rcases o2 with o2 | o2 <;> simp [kx_ty, o2, FieldType.isReference]
  have hin : vp_in (nI j) n := kx_in_nI hj o4
  have hlt : (nI j).toNatClampNeg < n := by rw [kx_cl_nI hj o4]; exact hj
  refine W.aald (v := .ref (ad (b + st * j))) (ty := kx_ty i) hx hb (hP i _ he) ((hK.2 i _ ht).1 n (fun q => va_rf (some (ad (b + st * q))))) hty (fun q => by cases q) (by show ¬ ((nI j) < 0 ∨ (arrV _ _ _).slots.size ≤ _); rw [arrV_size]; exact hin) (by show (arrV _ _ _).slots[_]? = _; rw [arrV_read _ _ hlt, kx_cl_nI hj o4]; rfl) rfl rfl d ?_
  exact kk H locs ls hP hS hl
theorem kx_cp_i {h : kx_H} {a b sp dp n : Nat} : kx_cp h a b sp dp n b = va_cpy (h a) (h b) sp dp n := by
  funext k
  simp [kx_cp, va_cpy]
theorem kx_cp_o {h : kx_H} {a b sp dp n : Nat} (q : Nat) (hq : q ≠ b) : kx_cp h a b sp dp n q = h q := by
  funext k
  simp [kx_cp, hq]
/-- the tables' words on System.arraycopy -/
def kx_AC (own : String) (idx : Nat) : Prop := Cond.methodLink own idx arraycopyName ∈ kx_tb ∧ Cond.native arraycopyName ∈ kx_tb ∧ Cond.static arraycopyName ∈ kx_tb ∧ Cond.initialized "java/lang/System" ∈ kx_tb
theorem kx_cpy {own : String} {cc : ByteArray} {nL dp : Nat} {F : kx_F} (C : kx_Ru own cc nL dp F) {pc : Nat} {L : List (Option Value)} {S : List Value} {h : kx_H} {idx a b sp q n na nb : Nat} (ac : kx_AC own idx) (h1 : kx_ia a na) (h2 : kx_ia b nb) (hdp : 1 ≤ dp) (h3 : sp + n ≤ na) (h4 : q + n ≤ nb) (hcat : (S.map fun v => v.category).sum ≤ 8) (d : decode cc pc = .ok (.invokestatic idx, 3)) (kk : F (pc + 3) L S (kx_cp h a b sp q n)) : F pc L (.int (nI n) :: .int (nI q) :: .ref b :: .int (nI sp) :: .ref a :: S) h := by
  obtain ⟨p, l, e, R, s, m, args, below, meth, c, cells, slots, Q, D, ad, cA, A, ⟨hx, hb, hml, hown, hts⟩, hN, hK, hJ, hA, hR, rfl⟩ := C
  intro H locs ls hP hS hl
  obtain ⟨a1, a2, a3, a4⟩ := ac
  obtain ⟨o1, o2, o3, o4⟩ := h1
  obtain ⟨u1, u2, u3, u4⟩ := h2
  have he := kx_wl_at (ad := ad) (cA := cA) (h := h) o1
  rw [kx_cell_i (Or.inl o2), o3] at he
  have ht := kx_tys_at (cA := cA) o1
  rw [show kx_ty a = .int by simp [kx_ty, o2]] at ht
  have he2 := kx_wl_at (ad := ad) (cA := cA) (h := h) u1
  rw [kx_cell_i (Or.inl u2), u3] at he2
  have ht2 := kx_tys_at (cA := cA) u1
  rw [show kx_ty b = .int by simp [kx_ty, u2]] at ht2
  have e1 : (nI sp).toNatClampNeg = sp := nI_clamp (by omega)
  have e2 : (nI q).toNatClampNeg = q := nI_clamp (by omega)
  have e3 : (nI n).toNatClampNeg = n := nI_clamp (by omega)
  have hcat2 : ((S.map (kx_val ad)).map fun v => v.category).sum ≤ 8 := by
    rw [List.map_map]
    have : ((fun v : Value => v.category) ∘ kx_val ad) = fun v => v.category := funext fun v => kx_val_cat ad v
    rw [this]
    exact hcat
  refine va_copyi hx hb (by rw [hml]; exact hl.1.symm) hown (hts _ a1) (hts _ a2) (hts _ a3) (hts _ a4) hK hP (kx_wl_D hJ hA) hS a b a b he he2 ht ht2 rfl (nI_pos (by omega)) (nI_pos (by omega)) (nI_pos (by omega)) (by rw [e1, e3]; exact h3) (by rw [e2, e3]; exact h4) (fun _ _ => rfl) (by omega) (by
    have hw : nativeFrameWords "java/lang/System" "arraycopy" 5 + 11 ≤ 32 := by decide +kernel
    omega) d (fun H1 locs1 hP1 hD1 hS1 => ?_)
  rw [e1, e2, e3, kx_wl_set (h' := kx_cp h a b sp q n) u1 (by rw [kx_cell_i (Or.inl u2), u3, kx_cp_i]) (fun c hc => kx_cp_o c hc)] at hP1
  exact kk H1 locs1 ls hP1 hS1 hl
end
section
/-! calls -/
theorem kx_blind {D : va_G} {ad : Nat → Nat} {cA : Nat → ClassId} {h : kx_H} {av : List Value} : FrameBlind (va_Pc av (kx_Wd D ad cA h)) := by
  intro a U g mk hq
  obtain ⟨e, q1, q2, q3⟩ := hq
  exact ⟨e, q1, va_K.moved (u := U) (U := U.calling g mk a) (Vm.Alike.refl U.vm) q2, fun q hq => va_Nw.same rfl rfl (q3 q hq)⟩
theorem kx_pre {D : va_G} {ad : Nat → Nat} {cA : Nat → ClassId} {h : kx_H} {av : List Value} {s : State} {H : Heap} (hP : va_P D vwCl (kx_wl ad cA h) H) (hK : va_K D vwCl (kx_tys cA) s) (hN : kx_Nw s) : ∀ U : State, U.heap = H → s.WarmedH U.vm → va_Pc av (kx_Wd D ad cA h) av.toArray U :=
  fun U hU hW => ⟨rfl, by rw [hU]; exact hP, va_K.moved hW.alike hK, hN.warm hW⟩
theorem kx_cats {ad : Nat → Nat} {S : List Value} (h : (S.map fun v => v.category).sum ≤ 8) : ((S.map (kx_val ad)).map fun v => v.category).sum ≤ 8 := by
  rw [List.map_map]
  have : ((fun v : Value => v.category) ∘ kx_val ad) = fun v => v.category := funext fun v => kx_val_cat ad v
  rw [this]
  exact h
def kx_nm (y : MethodName) (n : Nat) : Prop := y.cls ≠ "java/lang/invoke/MethodHandle" ∧ y.cls ≠ "java/lang/invoke/VarHandle" ∧ (parseMethodDescriptor y.desc).map (fun d => d.parameters.length) = some n
def kx_CS (own : String) (idx : Nat) (y : MethodName) (cc : ByteArray) (nL : Nat) (rt : Option FieldType) (n : Nat) : Prop := Cond.methodLink own idx y ∈ kx_tb ∧ Cond.static y ∈ kx_tb ∧ Cond.initialized y.cls ∈ kx_tb ∧ Cond.code y cc nL rt ∈ kx_tb ∧ kx_nm y n ∧ nL ≤ 20
def kx_CN (own : String) (idx : Nat) (y : MethodName) (cc : ByteArray) (nL : Nat) (rt : Option FieldType) (n : Nat) : Prop := (own, idx, y, "SpunTales") ∈ kx_nest ∧ Cond.static y ∈ kx_tb ∧ Cond.initialized y.cls ∈ kx_tb ∧ Cond.code y cc nL rt ∈ kx_tb ∧ kx_nm y n ∧ nL ≤ 20
def kx_CV (own : String) (idx : Nat) (y : MethodName) (cc : ByteArray) (nL : Nat) (rt : Option FieldType) (n ci : Nat) : Prop := Cond.methodLink own idx y ∈ kx_tb ∧ Cond.instanceMethod y ∈ kx_tb ∧ Cond.selects y.cls y y ∈ kx_tb ∧ Cond.initialized y.cls ∈ kx_tb ∧ Cond.code y cc nL rt ∈ kx_tb ∧ kx_nm y n ∧ nL ≤ 20 ∧ ∃ q : vw_C, vwCl[ci]? = some q ∧ q.1 = y.cls
set_option maxRecDepth 20000 in
theorem kx_callSIg {own : String} {cc : ByteArray} {nL dp : Nat} {F : kx_F} (C : kx_Ru own cc nL dp F) {pc : Nat} {L : List (Option Value)} {S : List Value} {h : kx_H} {idx : Nat} {y : MethodName} {c1 : ByteArray} {n1 n dp1 : Nat} {rt : FieldType} {Qc : Int32 → kx_H → Prop} {as : List Value} (cs : kx_CS own idx y c1 n1 (some rt) n) (hM : kx_MI dp1 y c1 n1 rt as h Qc) (hdp : dp1 + 1 ≤ dp) (d : decode cc pc = .ok (.invokestatic idx, 3)) (hn : as.length = n) (hcat : (S.map fun v => v.category).sum ≤ 8) (kk : ∀ (r : Int32) (h1 : kx_H), Qc r h1 → F (pc + 3) L (.int r :: S) h1) : F pc L (as.reverse ++ S) h := by
  obtain ⟨p, l, e, R, s, m, args, below, meth, c, cells, slots, Q, D, ad, cA, A, ⟨hx, hb, hml, hown, hts⟩, hN, hK, hJ, hA, hR, rfl⟩ := C
  intro H locs ls hP hS hl
  obtain ⟨b1, b2, b3, b4, b5, b6⟩ := cs
  exact va_calli (va_runS (As := as.map (kx_val ad)) (rest := S.map (kx_val ad)) ⟨hx, hb, hml, hown, hts⟩ (hM l D ad cA hJ) ⟨callB_of n hts (kx_goodIn b4) rfl rfl rfl (hts _ b3) (hts _ b1) b5 ⟨by show dp1 + 1 ≤ R.frames; omega, by show 8 + (n1 + 11) + 40 * dp1 ≤ R.locals; omega⟩, hts _ b2⟩ ⟨kx_blind, kx_pre hP hK hN⟩ rfl (by rw [List.length_map]; exact hn) hl.1 (by simp) (lv_room (kx_cats hcat)) d ⟨hR.2.2.1, hR.2.2.2⟩) hS (fun q _ hq => by obtain ⟨i, hi, rfl⟩ := hq; exact hA i hi) (fun q hq => by obtain ⟨i, hi, rfl⟩ := hq; exact hA i hi) (fun r h1 t H1 locs1 ht hvm hq hB hz hk hS1 => kk r h1 hq H1 locs1 ls (by rw [← ht]; exact hB.1) hS1 hl)
set_option maxRecDepth 20000 in
theorem kx_callNIg {own : String} {cc : ByteArray} {nL dp : Nat} {F : kx_F} (C : kx_Ru own cc nL dp F) {pc : Nat} {L : List (Option Value)} {S : List Value} {h : kx_H} {idx : Nat} {y : MethodName} {c1 : ByteArray} {n1 n dp1 : Nat} {rt : FieldType} {Qc : Int32 → kx_H → Prop} {as : List Value} (cs : kx_CN own idx y c1 n1 (some rt) n) (hM : kx_MI dp1 y c1 n1 rt as h Qc) (hdp : dp1 + 1 ≤ dp) (d : decode cc pc = .ok (.invokestatic idx, 3)) (hn : as.length = n) (hcat : (S.map fun v => v.category).sum ≤ 8) (kk : ∀ (r : Int32) (h1 : kx_H), Qc r h1 → F (pc + 3) L (.int r :: S) h1) : F pc L (as.reverse ++ S) h := by
  obtain ⟨p, l, e, R, s, m, args, below, meth, c, cells, slots, Q, D, ad, cA, A, ⟨hx, hb, hml, hown, hts⟩, hN, hK, hJ, hA, hR, rfl⟩ := C
  intro H locs ls hP hS hl
  obtain ⟨b1, b2, b3, b4, b5, b6⟩ := cs
  exact va_calli (va_runSN (As := as.map (kx_val ad)) (rest := S.map (kx_val ad)) ⟨hx, hb, hml, hown, hts⟩ (hM l D ad cA hJ) ⟨va_cnB n hts (kx_goodIn b4) rfl rfl rfl (hN _ b1) (hts _ b3) b5 ⟨by show dp1 + 1 ≤ R.frames; omega, by show 8 + (n1 + 11) + 40 * dp1 ≤ R.locals; omega⟩, hts _ b2, trivial⟩ ⟨kx_blind, kx_pre hP hK hN⟩ rfl (by rw [List.length_map]; exact hn) hl.1 (by simp) (lv_room (kx_cats hcat)) d ⟨hR.2.2.1, hR.2.2.2⟩) hS (fun q _ hq => by obtain ⟨i, hi, rfl⟩ := hq; exact hA i hi) (fun q hq => by obtain ⟨i, hi, rfl⟩ := hq; exact hA i hi) (fun r h1 t H1 locs1 ht hvm hq hB hz hk hS1 => kk r h1 hq H1 locs1 ls (by rw [← ht]; exact hB.1) hS1 hl)
set_option maxRecDepth 20000 in
theorem kx_callVIg {own : String} {cc : ByteArray} {nL dp : Nat} {F : kx_F} (C : kx_Ru own cc nL dp F) {pc : Nat} {L : List (Option Value)} {S : List Value} {h : kx_H} {idx : Nat} {y : MethodName} {c1 : ByteArray} {n1 n dp1 : Nat} {rt : FieldType} {Qc : Int32 → kx_H → Prop} {as : List Value} {i ci : Nat} (cs : kx_CV own idx y c1 n1 (some rt) n ci) (ho : kx_ob i ci) (hM : kx_MI dp1 y c1 n1 rt (.ref i :: as) h Qc) (hdp : dp1 + 1 ≤ dp) (d : decode cc pc = .ok (.invokevirtual idx, 3)) (hn : as.length = n) (hcat : (S.map fun v => v.category).sum ≤ 8) (kk : ∀ (r : Int32) (h1 : kx_H), Qc r h1 → F (pc + 3) L (.int r :: S) h1) : F pc L (as.reverse ++ .ref i :: S) h := by
  obtain ⟨p, l, e, R, s, m, args, below, meth, c, cells, slots, Q, D, ad, cA, A, ⟨hx, hb, hml, hown, hts⟩, hN, hK, hJ, hA, hR, rfl⟩ := C
  intro H locs ls hP hS hl
  obtain ⟨b1, b2, b7, b3, b4, b5, b6, q, b8, b9⟩ := cs
  obtain ⟨o1, o2, o3⟩ := ho
  have he := kx_wl_at (ad := ad) (cA := cA) (h := h) o1
  rw [kx_cell_o o2, o3] at he
  have hrc := va_recv hK hP b8 he
  rw [b9] at hrc
  exact va_calli (va_runV (C := y.cls) (As := as.map (kx_val ad)) (rest := S.map (kx_val ad)) ⟨hx, hb, hml, hown, hts⟩ (hM l D ad cA hJ) ⟨callB_of n hts (kx_goodIn b4) rfl rfl rfl (hts _ b3) (hts _ b1) b5 ⟨by show dp1 + 1 ≤ R.frames; omega, by show 8 + (n1 + 11) + 40 * dp1 ≤ R.locals; omega⟩, hts _ b2, hts _ b7⟩ ⟨kx_blind, hrc, kx_pre hP hK hN⟩ rfl (by rw [List.length_map]; exact hn) hl.1 (by simp [kx_val]) (lv_room (kx_cats hcat)) d ⟨hR.2.2.1, hR.2.2.2⟩) hS (fun q _ hq => by obtain ⟨i, hi, rfl⟩ := hq; exact hA i hi) (fun q hq => by obtain ⟨i, hi, rfl⟩ := hq; exact hA i hi) (fun r h1 t H1 locs1 ht hvm hq hB hz hk hS1 => kk r h1 hq H1 locs1 ls (by rw [← ht]; exact hB.1) hS1 hl)
set_option maxRecDepth 20000 in
theorem kx_callSVg {own : String} {cc : ByteArray} {nL dp : Nat} {F : kx_F} (C : kx_Ru own cc nL dp F) {pc : Nat} {L : List (Option Value)} {S : List Value} {h : kx_H} {idx : Nat} {y : MethodName} {c1 : ByteArray} {n1 n dp1 : Nat} {Qc : kx_H → Prop} {as : List Value} (cs : kx_CS own idx y c1 n1 none n) (hM : kx_MV dp1 y c1 n1 as h Qc) (hdp : dp1 + 1 ≤ dp) (d : decode cc pc = .ok (.invokestatic idx, 3)) (hn : as.length = n) (hcat : (S.map fun v => v.category).sum ≤ 8) (kk : ∀ (h1 : kx_H), Qc h1 → F (pc + 3) L S h1) : F pc L (as.reverse ++ S) h := by
  obtain ⟨p, l, e, R, s, m, args, below, meth, c, cells, slots, Q, D, ad, cA, A, ⟨hx, hb, hml, hown, hts⟩, hN, hK, hJ, hA, hR, rfl⟩ := C
  intro H locs ls hP hS hl
  obtain ⟨b1, b2, b3, b4, b5, b6⟩ := cs
  exact va_callv (va_runS (As := as.map (kx_val ad)) (rest := S.map (kx_val ad)) ⟨hx, hb, hml, hown, hts⟩ (hM l D ad cA hJ) ⟨callB_of n hts (kx_goodIn b4) rfl rfl rfl (hts _ b3) (hts _ b1) b5 ⟨by show dp1 + 1 ≤ R.frames; omega, by show 8 + (n1 + 11) + 40 * dp1 ≤ R.locals; omega⟩, hts _ b2⟩ ⟨kx_blind, kx_pre hP hK hN⟩ rfl (by rw [List.length_map]; exact hn) hl.1 (by simp) (lv_room (kx_cats hcat)) d ⟨hR.2.2.1, hR.2.2.2⟩) hS (fun q _ hq => by obtain ⟨i, hi, rfl⟩ := hq; exact hA i hi) (fun q hq => by obtain ⟨i, hi, rfl⟩ := hq; exact hA i hi) (fun h1 t H1 locs1 ht hvm hq hB hz hk hS1 => kk h1 hq H1 locs1 ls (by rw [← ht]; exact hB.1) hS1 hl)
set_option maxRecDepth 20000 in
theorem kx_callNVg {own : String} {cc : ByteArray} {nL dp : Nat} {F : kx_F} (C : kx_Ru own cc nL dp F) {pc : Nat} {L : List (Option Value)} {S : List Value} {h : kx_H} {idx : Nat} {y : MethodName} {c1 : ByteArray} {n1 n dp1 : Nat} {Qc : kx_H → Prop} {as : List Value} (cs : kx_CN own idx y c1 n1 none n) (hM : kx_MV dp1 y c1 n1 as h Qc) (hdp : dp1 + 1 ≤ dp) (d : decode cc pc = .ok (.invokestatic idx, 3)) (hn : as.length = n) (hcat : (S.map fun v => v.category).sum ≤ 8) (kk : ∀ (h1 : kx_H), Qc h1 → F (pc + 3) L S h1) : F pc L (as.reverse ++ S) h := by
  obtain ⟨p, l, e, R, s, m, args, below, meth, c, cells, slots, Q, D, ad, cA, A, ⟨hx, hb, hml, hown, hts⟩, hN, hK, hJ, hA, hR, rfl⟩ := C
  intro H locs ls hP hS hl
  obtain ⟨b1, b2, b3, b4, b5, b6⟩ := cs
  exact va_callv (va_runSN (As := as.map (kx_val ad)) (rest := S.map (kx_val ad)) ⟨hx, hb, hml, hown, hts⟩ (hM l D ad cA hJ) ⟨va_cnB n hts (kx_goodIn b4) rfl rfl rfl (hN _ b1) (hts _ b3) b5 ⟨by show dp1 + 1 ≤ R.frames; omega, by show 8 + (n1 + 11) + 40 * dp1 ≤ R.locals; omega⟩, hts _ b2, trivial⟩ ⟨kx_blind, kx_pre hP hK hN⟩ rfl (by rw [List.length_map]; exact hn) hl.1 (by simp) (lv_room (kx_cats hcat)) d ⟨hR.2.2.1, hR.2.2.2⟩) hS (fun q _ hq => by obtain ⟨i, hi, rfl⟩ := hq; exact hA i hi) (fun q hq => by obtain ⟨i, hi, rfl⟩ := hq; exact hA i hi) (fun h1 t H1 locs1 ht hvm hq hB hz hk hS1 => kk h1 hq H1 locs1 ls (by rw [← ht]; exact hB.1) hS1 hl)
set_option maxRecDepth 20000 in
theorem kx_callVVg {own : String} {cc : ByteArray} {nL dp : Nat} {F : kx_F} (C : kx_Ru own cc nL dp F) {pc : Nat} {L : List (Option Value)} {S : List Value} {h : kx_H} {idx : Nat} {y : MethodName} {c1 : ByteArray} {n1 n dp1 : Nat} {Qc : kx_H → Prop} {as : List Value} {i ci : Nat} (cs : kx_CV own idx y c1 n1 none n ci) (ho : kx_ob i ci) (hM : kx_MV dp1 y c1 n1 (.ref i :: as) h Qc) (hdp : dp1 + 1 ≤ dp) (d : decode cc pc = .ok (.invokevirtual idx, 3)) (hn : as.length = n) (hcat : (S.map fun v => v.category).sum ≤ 8) (kk : ∀ (h1 : kx_H), Qc h1 → F (pc + 3) L S h1) : F pc L (as.reverse ++ .ref i :: S) h := by
  obtain ⟨p, l, e, R, s, m, args, below, meth, c, cells, slots, Q, D, ad, cA, A, ⟨hx, hb, hml, hown, hts⟩, hN, hK, hJ, hA, hR, rfl⟩ := C
  intro H locs ls hP hS hl
  obtain ⟨b1, b2, b7, b3, b4, b5, b6, q, b8, b9⟩ := cs
  obtain ⟨o1, o2, o3⟩ := ho
  have he := kx_wl_at (ad := ad) (cA := cA) (h := h) o1
  rw [kx_cell_o o2, o3] at he
  have hrc := va_recv hK hP b8 he
  rw [b9] at hrc
  exact va_callv (va_runV (C := y.cls) (As := as.map (kx_val ad)) (rest := S.map (kx_val ad)) ⟨hx, hb, hml, hown, hts⟩ (hM l D ad cA hJ) ⟨callB_of n hts (kx_goodIn b4) rfl rfl rfl (hts _ b3) (hts _ b1) b5 ⟨by show dp1 + 1 ≤ R.frames; omega, by show 8 + (n1 + 11) + 40 * dp1 ≤ R.locals; omega⟩, hts _ b2, hts _ b7⟩ ⟨kx_blind, hrc, kx_pre hP hK hN⟩ rfl (by rw [List.length_map]; exact hn) hl.1 (by simp [kx_val]) (lv_room (kx_cats hcat)) d ⟨hR.2.2.1, hR.2.2.2⟩) hS (fun q _ hq => by obtain ⟨i, hi, rfl⟩ := hq; exact hA i hi) (fun q hq => by obtain ⟨i, hi, rfl⟩ := hq; exact hA i hi) (fun h1 t H1 locs1 ht hvm hq hB hz hk hS1 => kk h1 hq H1 locs1 ls (by rw [← ht]; exact hB.1) hS1 hl)
theorem kx_callVI0 {own : String} {cc : ByteArray} {nL dp : Nat} {F : kx_F} (C : kx_Ru own cc nL dp F) {pc : Nat} {L : List (Option Value)} {S : List Value} {h : kx_H} {idx : Nat} {y : MethodName} {c1 : ByteArray} {n1 dp1 : Nat} {rt : FieldType} {Qc : Int32 → kx_H → Prop} {i ci : Nat} (cs : kx_CV own idx y c1 n1 (some rt) 0 ci) (ho : kx_ob i ci) (hM : kx_MI dp1 y c1 n1 rt [.ref i] h Qc) (hdp : dp1 + 1 ≤ dp) (d : decode cc pc = .ok (.invokevirtual idx, 3)) (hcat : (S.map fun v => v.category).sum ≤ 8) (kk : ∀ (r : Int32) (h1 : kx_H), Qc r h1 → F (pc + 3) L (.int r :: S) h1) : F pc L (.ref i :: S) h := kx_callVIg (as := []) C cs ho hM hdp d rfl hcat kk
theorem kx_callSI1 {own : String} {cc : ByteArray} {nL dp : Nat} {F : kx_F} (C : kx_Ru own cc nL dp F) {pc : Nat} {L : List (Option Value)} {S : List Value} {h : kx_H} {idx : Nat} {y : MethodName} {c1 : ByteArray} {n1 dp1 : Nat} {rt : FieldType} {Qc : Int32 → kx_H → Prop} {a1 : Value} (cs : kx_CS own idx y c1 n1 (some rt) 1) (hM : kx_MI dp1 y c1 n1 rt [a1] h Qc) (hdp : dp1 + 1 ≤ dp) (d : decode cc pc = .ok (.invokestatic idx, 3)) (hcat : (S.map fun v => v.category).sum ≤ 8) (kk : ∀ (r : Int32) (h1 : kx_H), Qc r h1 → F (pc + 3) L (.int r :: S) h1) : F pc L (a1 :: S) h := kx_callSIg C cs hM hdp d rfl hcat kk
theorem kx_callNI1 {own : String} {cc : ByteArray} {nL dp : Nat} {F : kx_F} (C : kx_Ru own cc nL dp F) {pc : Nat} {L : List (Option Value)} {S : List Value} {h : kx_H} {idx : Nat} {y : MethodName} {c1 : ByteArray} {n1 dp1 : Nat} {rt : FieldType} {Qc : Int32 → kx_H → Prop} {a1 : Value} (cs : kx_CN own idx y c1 n1 (some rt) 1) (hM : kx_MI dp1 y c1 n1 rt [a1] h Qc) (hdp : dp1 + 1 ≤ dp) (d : decode cc pc = .ok (.invokestatic idx, 3)) (hcat : (S.map fun v => v.category).sum ≤ 8) (kk : ∀ (r : Int32) (h1 : kx_H), Qc r h1 → F (pc + 3) L (.int r :: S) h1) : F pc L (a1 :: S) h := kx_callNIg C cs hM hdp d rfl hcat kk
theorem kx_callVI1 {own : String} {cc : ByteArray} {nL dp : Nat} {F : kx_F} (C : kx_Ru own cc nL dp F) {pc : Nat} {L : List (Option Value)} {S : List Value} {h : kx_H} {idx : Nat} {y : MethodName} {c1 : ByteArray} {n1 dp1 : Nat} {rt : FieldType} {Qc : Int32 → kx_H → Prop} {a1 : Value} {i ci : Nat} (cs : kx_CV own idx y c1 n1 (some rt) 1 ci) (ho : kx_ob i ci) (hM : kx_MI dp1 y c1 n1 rt [.ref i, a1] h Qc) (hdp : dp1 + 1 ≤ dp) (d : decode cc pc = .ok (.invokevirtual idx, 3)) (hcat : (S.map fun v => v.category).sum ≤ 8) (kk : ∀ (r : Int32) (h1 : kx_H), Qc r h1 → F (pc + 3) L (.int r :: S) h1) : F pc L (a1 :: .ref i :: S) h := kx_callVIg (as := [a1]) C cs ho hM hdp d rfl hcat kk
theorem kx_callSI2 {own : String} {cc : ByteArray} {nL dp : Nat} {F : kx_F} (C : kx_Ru own cc nL dp F) {pc : Nat} {L : List (Option Value)} {S : List Value} {h : kx_H} {idx : Nat} {y : MethodName} {c1 : ByteArray} {n1 dp1 : Nat} {rt : FieldType} {Qc : Int32 → kx_H → Prop} {a1 a2 : Value} (cs : kx_CS own idx y c1 n1 (some rt) 2) (hM : kx_MI dp1 y c1 n1 rt [a1, a2] h Qc) (hdp : dp1 + 1 ≤ dp) (d : decode cc pc = .ok (.invokestatic idx, 3)) (hcat : (S.map fun v => v.category).sum ≤ 8) (kk : ∀ (r : Int32) (h1 : kx_H), Qc r h1 → F (pc + 3) L (.int r :: S) h1) : F pc L (a2 :: a1 :: S) h := kx_callSIg C cs hM hdp d rfl hcat kk
theorem kx_callNI2 {own : String} {cc : ByteArray} {nL dp : Nat} {F : kx_F} (C : kx_Ru own cc nL dp F) {pc : Nat} {L : List (Option Value)} {S : List Value} {h : kx_H} {idx : Nat} {y : MethodName} {c1 : ByteArray} {n1 dp1 : Nat} {rt : FieldType} {Qc : Int32 → kx_H → Prop} {a1 a2 : Value} (cs : kx_CN own idx y c1 n1 (some rt) 2) (hM : kx_MI dp1 y c1 n1 rt [a1, a2] h Qc) (hdp : dp1 + 1 ≤ dp) (d : decode cc pc = .ok (.invokestatic idx, 3)) (hcat : (S.map fun v => v.category).sum ≤ 8) (kk : ∀ (r : Int32) (h1 : kx_H), Qc r h1 → F (pc + 3) L (.int r :: S) h1) : F pc L (a2 :: a1 :: S) h := kx_callNIg C cs hM hdp d rfl hcat kk
theorem kx_callVI2 {own : String} {cc : ByteArray} {nL dp : Nat} {F : kx_F} (C : kx_Ru own cc nL dp F) {pc : Nat} {L : List (Option Value)} {S : List Value} {h : kx_H} {idx : Nat} {y : MethodName} {c1 : ByteArray} {n1 dp1 : Nat} {rt : FieldType} {Qc : Int32 → kx_H → Prop} {a1 a2 : Value} {i ci : Nat} (cs : kx_CV own idx y c1 n1 (some rt) 2 ci) (ho : kx_ob i ci) (hM : kx_MI dp1 y c1 n1 rt [.ref i, a1, a2] h Qc) (hdp : dp1 + 1 ≤ dp) (d : decode cc pc = .ok (.invokevirtual idx, 3)) (hcat : (S.map fun v => v.category).sum ≤ 8) (kk : ∀ (r : Int32) (h1 : kx_H), Qc r h1 → F (pc + 3) L (.int r :: S) h1) : F pc L (a2 :: a1 :: .ref i :: S) h := kx_callVIg (as := [a1, a2]) C cs ho hM hdp d rfl hcat kk
theorem kx_callSI3 {own : String} {cc : ByteArray} {nL dp : Nat} {F : kx_F} (C : kx_Ru own cc nL dp F) {pc : Nat} {L : List (Option Value)} {S : List Value} {h : kx_H} {idx : Nat} {y : MethodName} {c1 : ByteArray} {n1 dp1 : Nat} {rt : FieldType} {Qc : Int32 → kx_H → Prop} {a1 a2 a3 : Value} (cs : kx_CS own idx y c1 n1 (some rt) 3) (hM : kx_MI dp1 y c1 n1 rt [a1, a2, a3] h Qc) (hdp : dp1 + 1 ≤ dp) (d : decode cc pc = .ok (.invokestatic idx, 3)) (hcat : (S.map fun v => v.category).sum ≤ 8) (kk : ∀ (r : Int32) (h1 : kx_H), Qc r h1 → F (pc + 3) L (.int r :: S) h1) : F pc L (a3 :: a2 :: a1 :: S) h := kx_callSIg C cs hM hdp d rfl hcat kk
theorem kx_callNI3 {own : String} {cc : ByteArray} {nL dp : Nat} {F : kx_F} (C : kx_Ru own cc nL dp F) {pc : Nat} {L : List (Option Value)} {S : List Value} {h : kx_H} {idx : Nat} {y : MethodName} {c1 : ByteArray} {n1 dp1 : Nat} {rt : FieldType} {Qc : Int32 → kx_H → Prop} {a1 a2 a3 : Value} (cs : kx_CN own idx y c1 n1 (some rt) 3) (hM : kx_MI dp1 y c1 n1 rt [a1, a2, a3] h Qc) (hdp : dp1 + 1 ≤ dp) (d : decode cc pc = .ok (.invokestatic idx, 3)) (hcat : (S.map fun v => v.category).sum ≤ 8) (kk : ∀ (r : Int32) (h1 : kx_H), Qc r h1 → F (pc + 3) L (.int r :: S) h1) : F pc L (a3 :: a2 :: a1 :: S) h := kx_callNIg C cs hM hdp d rfl hcat kk
theorem kx_callVI3 {own : String} {cc : ByteArray} {nL dp : Nat} {F : kx_F} (C : kx_Ru own cc nL dp F) {pc : Nat} {L : List (Option Value)} {S : List Value} {h : kx_H} {idx : Nat} {y : MethodName} {c1 : ByteArray} {n1 dp1 : Nat} {rt : FieldType} {Qc : Int32 → kx_H → Prop} {a1 a2 a3 : Value} {i ci : Nat} (cs : kx_CV own idx y c1 n1 (some rt) 3 ci) (ho : kx_ob i ci) (hM : kx_MI dp1 y c1 n1 rt [.ref i, a1, a2, a3] h Qc) (hdp : dp1 + 1 ≤ dp) (d : decode cc pc = .ok (.invokevirtual idx, 3)) (hcat : (S.map fun v => v.category).sum ≤ 8) (kk : ∀ (r : Int32) (h1 : kx_H), Qc r h1 → F (pc + 3) L (.int r :: S) h1) : F pc L (a3 :: a2 :: a1 :: .ref i :: S) h := kx_callVIg (as := [a1, a2, a3]) C cs ho hM hdp d rfl hcat kk
theorem kx_callSI4 {own : String} {cc : ByteArray} {nL dp : Nat} {F : kx_F} (C : kx_Ru own cc nL dp F) {pc : Nat} {L : List (Option Value)} {S : List Value} {h : kx_H} {idx : Nat} {y : MethodName} {c1 : ByteArray} {n1 dp1 : Nat} {rt : FieldType} {Qc : Int32 → kx_H → Prop} {a1 a2 a3 a4 : Value} (cs : kx_CS own idx y c1 n1 (some rt) 4) (hM : kx_MI dp1 y c1 n1 rt [a1, a2, a3, a4] h Qc) (hdp : dp1 + 1 ≤ dp) (d : decode cc pc = .ok (.invokestatic idx, 3)) (hcat : (S.map fun v => v.category).sum ≤ 8) (kk : ∀ (r : Int32) (h1 : kx_H), Qc r h1 → F (pc + 3) L (.int r :: S) h1) : F pc L (a4 :: a3 :: a2 :: a1 :: S) h := kx_callSIg C cs hM hdp d rfl hcat kk
theorem kx_callNI4 {own : String} {cc : ByteArray} {nL dp : Nat} {F : kx_F} (C : kx_Ru own cc nL dp F) {pc : Nat} {L : List (Option Value)} {S : List Value} {h : kx_H} {idx : Nat} {y : MethodName} {c1 : ByteArray} {n1 dp1 : Nat} {rt : FieldType} {Qc : Int32 → kx_H → Prop} {a1 a2 a3 a4 : Value} (cs : kx_CN own idx y c1 n1 (some rt) 4) (hM : kx_MI dp1 y c1 n1 rt [a1, a2, a3, a4] h Qc) (hdp : dp1 + 1 ≤ dp) (d : decode cc pc = .ok (.invokestatic idx, 3)) (hcat : (S.map fun v => v.category).sum ≤ 8) (kk : ∀ (r : Int32) (h1 : kx_H), Qc r h1 → F (pc + 3) L (.int r :: S) h1) : F pc L (a4 :: a3 :: a2 :: a1 :: S) h := kx_callNIg C cs hM hdp d rfl hcat kk
theorem kx_callVI4 {own : String} {cc : ByteArray} {nL dp : Nat} {F : kx_F} (C : kx_Ru own cc nL dp F) {pc : Nat} {L : List (Option Value)} {S : List Value} {h : kx_H} {idx : Nat} {y : MethodName} {c1 : ByteArray} {n1 dp1 : Nat} {rt : FieldType} {Qc : Int32 → kx_H → Prop} {a1 a2 a3 a4 : Value} {i ci : Nat} (cs : kx_CV own idx y c1 n1 (some rt) 4 ci) (ho : kx_ob i ci) (hM : kx_MI dp1 y c1 n1 rt [.ref i, a1, a2, a3, a4] h Qc) (hdp : dp1 + 1 ≤ dp) (d : decode cc pc = .ok (.invokevirtual idx, 3)) (hcat : (S.map fun v => v.category).sum ≤ 8) (kk : ∀ (r : Int32) (h1 : kx_H), Qc r h1 → F (pc + 3) L (.int r :: S) h1) : F pc L (a4 :: a3 :: a2 :: a1 :: .ref i :: S) h := kx_callVIg (as := [a1, a2, a3, a4]) C cs ho hM hdp d rfl hcat kk
theorem kx_callSI5 {own : String} {cc : ByteArray} {nL dp : Nat} {F : kx_F} (C : kx_Ru own cc nL dp F) {pc : Nat} {L : List (Option Value)} {S : List Value} {h : kx_H} {idx : Nat} {y : MethodName} {c1 : ByteArray} {n1 dp1 : Nat} {rt : FieldType} {Qc : Int32 → kx_H → Prop} {a1 a2 a3 a4 a5 : Value} (cs : kx_CS own idx y c1 n1 (some rt) 5) (hM : kx_MI dp1 y c1 n1 rt [a1, a2, a3, a4, a5] h Qc) (hdp : dp1 + 1 ≤ dp) (d : decode cc pc = .ok (.invokestatic idx, 3)) (hcat : (S.map fun v => v.category).sum ≤ 8) (kk : ∀ (r : Int32) (h1 : kx_H), Qc r h1 → F (pc + 3) L (.int r :: S) h1) : F pc L (a5 :: a4 :: a3 :: a2 :: a1 :: S) h := kx_callSIg C cs hM hdp d rfl hcat kk
theorem kx_callNI5 {own : String} {cc : ByteArray} {nL dp : Nat} {F : kx_F} (C : kx_Ru own cc nL dp F) {pc : Nat} {L : List (Option Value)} {S : List Value} {h : kx_H} {idx : Nat} {y : MethodName} {c1 : ByteArray} {n1 dp1 : Nat} {rt : FieldType} {Qc : Int32 → kx_H → Prop} {a1 a2 a3 a4 a5 : Value} (cs : kx_CN own idx y c1 n1 (some rt) 5) (hM : kx_MI dp1 y c1 n1 rt [a1, a2, a3, a4, a5] h Qc) (hdp : dp1 + 1 ≤ dp) (d : decode cc pc = .ok (.invokestatic idx, 3)) (hcat : (S.map fun v => v.category).sum ≤ 8) (kk : ∀ (r : Int32) (h1 : kx_H), Qc r h1 → F (pc + 3) L (.int r :: S) h1) : F pc L (a5 :: a4 :: a3 :: a2 :: a1 :: S) h := kx_callNIg C cs hM hdp d rfl hcat kk
theorem kx_callVI5 {own : String} {cc : ByteArray} {nL dp : Nat} {F : kx_F} (C : kx_Ru own cc nL dp F) {pc : Nat} {L : List (Option Value)} {S : List Value} {h : kx_H} {idx : Nat} {y : MethodName} {c1 : ByteArray} {n1 dp1 : Nat} {rt : FieldType} {Qc : Int32 → kx_H → Prop} {a1 a2 a3 a4 a5 : Value} {i ci : Nat} (cs : kx_CV own idx y c1 n1 (some rt) 5 ci) (ho : kx_ob i ci) (hM : kx_MI dp1 y c1 n1 rt [.ref i, a1, a2, a3, a4, a5] h Qc) (hdp : dp1 + 1 ≤ dp) (d : decode cc pc = .ok (.invokevirtual idx, 3)) (hcat : (S.map fun v => v.category).sum ≤ 8) (kk : ∀ (r : Int32) (h1 : kx_H), Qc r h1 → F (pc + 3) L (.int r :: S) h1) : F pc L (a5 :: a4 :: a3 :: a2 :: a1 :: .ref i :: S) h := kx_callVIg (as := [a1, a2, a3, a4, a5]) C cs ho hM hdp d rfl hcat kk
theorem kx_callSI6 {own : String} {cc : ByteArray} {nL dp : Nat} {F : kx_F} (C : kx_Ru own cc nL dp F) {pc : Nat} {L : List (Option Value)} {S : List Value} {h : kx_H} {idx : Nat} {y : MethodName} {c1 : ByteArray} {n1 dp1 : Nat} {rt : FieldType} {Qc : Int32 → kx_H → Prop} {a1 a2 a3 a4 a5 a6 : Value} (cs : kx_CS own idx y c1 n1 (some rt) 6) (hM : kx_MI dp1 y c1 n1 rt [a1, a2, a3, a4, a5, a6] h Qc) (hdp : dp1 + 1 ≤ dp) (d : decode cc pc = .ok (.invokestatic idx, 3)) (hcat : (S.map fun v => v.category).sum ≤ 8) (kk : ∀ (r : Int32) (h1 : kx_H), Qc r h1 → F (pc + 3) L (.int r :: S) h1) : F pc L (a6 :: a5 :: a4 :: a3 :: a2 :: a1 :: S) h := kx_callSIg C cs hM hdp d rfl hcat kk
theorem kx_callNI6 {own : String} {cc : ByteArray} {nL dp : Nat} {F : kx_F} (C : kx_Ru own cc nL dp F) {pc : Nat} {L : List (Option Value)} {S : List Value} {h : kx_H} {idx : Nat} {y : MethodName} {c1 : ByteArray} {n1 dp1 : Nat} {rt : FieldType} {Qc : Int32 → kx_H → Prop} {a1 a2 a3 a4 a5 a6 : Value} (cs : kx_CN own idx y c1 n1 (some rt) 6) (hM : kx_MI dp1 y c1 n1 rt [a1, a2, a3, a4, a5, a6] h Qc) (hdp : dp1 + 1 ≤ dp) (d : decode cc pc = .ok (.invokestatic idx, 3)) (hcat : (S.map fun v => v.category).sum ≤ 8) (kk : ∀ (r : Int32) (h1 : kx_H), Qc r h1 → F (pc + 3) L (.int r :: S) h1) : F pc L (a6 :: a5 :: a4 :: a3 :: a2 :: a1 :: S) h := kx_callNIg C cs hM hdp d rfl hcat kk
theorem kx_callVI6 {own : String} {cc : ByteArray} {nL dp : Nat} {F : kx_F} (C : kx_Ru own cc nL dp F) {pc : Nat} {L : List (Option Value)} {S : List Value} {h : kx_H} {idx : Nat} {y : MethodName} {c1 : ByteArray} {n1 dp1 : Nat} {rt : FieldType} {Qc : Int32 → kx_H → Prop} {a1 a2 a3 a4 a5 a6 : Value} {i ci : Nat} (cs : kx_CV own idx y c1 n1 (some rt) 6 ci) (ho : kx_ob i ci) (hM : kx_MI dp1 y c1 n1 rt [.ref i, a1, a2, a3, a4, a5, a6] h Qc) (hdp : dp1 + 1 ≤ dp) (d : decode cc pc = .ok (.invokevirtual idx, 3)) (hcat : (S.map fun v => v.category).sum ≤ 8) (kk : ∀ (r : Int32) (h1 : kx_H), Qc r h1 → F (pc + 3) L (.int r :: S) h1) : F pc L (a6 :: a5 :: a4 :: a3 :: a2 :: a1 :: .ref i :: S) h := kx_callVIg (as := [a1, a2, a3, a4, a5, a6]) C cs ho hM hdp d rfl hcat kk
theorem kx_callSI7 {own : String} {cc : ByteArray} {nL dp : Nat} {F : kx_F} (C : kx_Ru own cc nL dp F) {pc : Nat} {L : List (Option Value)} {S : List Value} {h : kx_H} {idx : Nat} {y : MethodName} {c1 : ByteArray} {n1 dp1 : Nat} {rt : FieldType} {Qc : Int32 → kx_H → Prop} {a1 a2 a3 a4 a5 a6 a7 : Value} (cs : kx_CS own idx y c1 n1 (some rt) 7) (hM : kx_MI dp1 y c1 n1 rt [a1, a2, a3, a4, a5, a6, a7] h Qc) (hdp : dp1 + 1 ≤ dp) (d : decode cc pc = .ok (.invokestatic idx, 3)) (hcat : (S.map fun v => v.category).sum ≤ 8) (kk : ∀ (r : Int32) (h1 : kx_H), Qc r h1 → F (pc + 3) L (.int r :: S) h1) : F pc L (a7 :: a6 :: a5 :: a4 :: a3 :: a2 :: a1 :: S) h := kx_callSIg C cs hM hdp d rfl hcat kk
theorem kx_callNI7 {own : String} {cc : ByteArray} {nL dp : Nat} {F : kx_F} (C : kx_Ru own cc nL dp F) {pc : Nat} {L : List (Option Value)} {S : List Value} {h : kx_H} {idx : Nat} {y : MethodName} {c1 : ByteArray} {n1 dp1 : Nat} {rt : FieldType} {Qc : Int32 → kx_H → Prop} {a1 a2 a3 a4 a5 a6 a7 : Value} (cs : kx_CN own idx y c1 n1 (some rt) 7) (hM : kx_MI dp1 y c1 n1 rt [a1, a2, a3, a4, a5, a6, a7] h Qc) (hdp : dp1 + 1 ≤ dp) (d : decode cc pc = .ok (.invokestatic idx, 3)) (hcat : (S.map fun v => v.category).sum ≤ 8) (kk : ∀ (r : Int32) (h1 : kx_H), Qc r h1 → F (pc + 3) L (.int r :: S) h1) : F pc L (a7 :: a6 :: a5 :: a4 :: a3 :: a2 :: a1 :: S) h := kx_callNIg C cs hM hdp d rfl hcat kk
theorem kx_callVI7 {own : String} {cc : ByteArray} {nL dp : Nat} {F : kx_F} (C : kx_Ru own cc nL dp F) {pc : Nat} {L : List (Option Value)} {S : List Value} {h : kx_H} {idx : Nat} {y : MethodName} {c1 : ByteArray} {n1 dp1 : Nat} {rt : FieldType} {Qc : Int32 → kx_H → Prop} {a1 a2 a3 a4 a5 a6 a7 : Value} {i ci : Nat} (cs : kx_CV own idx y c1 n1 (some rt) 7 ci) (ho : kx_ob i ci) (hM : kx_MI dp1 y c1 n1 rt [.ref i, a1, a2, a3, a4, a5, a6, a7] h Qc) (hdp : dp1 + 1 ≤ dp) (d : decode cc pc = .ok (.invokevirtual idx, 3)) (hcat : (S.map fun v => v.category).sum ≤ 8) (kk : ∀ (r : Int32) (h1 : kx_H), Qc r h1 → F (pc + 3) L (.int r :: S) h1) : F pc L (a7 :: a6 :: a5 :: a4 :: a3 :: a2 :: a1 :: .ref i :: S) h := kx_callVIg (as := [a1, a2, a3, a4, a5, a6, a7]) C cs ho hM hdp d rfl hcat kk
theorem kx_callVV0 {own : String} {cc : ByteArray} {nL dp : Nat} {F : kx_F} (C : kx_Ru own cc nL dp F) {pc : Nat} {L : List (Option Value)} {S : List Value} {h : kx_H} {idx : Nat} {y : MethodName} {c1 : ByteArray} {n1 dp1 : Nat} {Qc : kx_H → Prop} {i ci : Nat} (cs : kx_CV own idx y c1 n1 none 0 ci) (ho : kx_ob i ci) (hM : kx_MV dp1 y c1 n1 [.ref i] h Qc) (hdp : dp1 + 1 ≤ dp) (d : decode cc pc = .ok (.invokevirtual idx, 3)) (hcat : (S.map fun v => v.category).sum ≤ 8) (kk : ∀ (h1 : kx_H), Qc h1 → F (pc + 3) L S h1) : F pc L (.ref i :: S) h := kx_callVVg (as := []) C cs ho hM hdp d rfl hcat kk
theorem kx_callSV1 {own : String} {cc : ByteArray} {nL dp : Nat} {F : kx_F} (C : kx_Ru own cc nL dp F) {pc : Nat} {L : List (Option Value)} {S : List Value} {h : kx_H} {idx : Nat} {y : MethodName} {c1 : ByteArray} {n1 dp1 : Nat} {Qc : kx_H → Prop} {a1 : Value} (cs : kx_CS own idx y c1 n1 none 1) (hM : kx_MV dp1 y c1 n1 [a1] h Qc) (hdp : dp1 + 1 ≤ dp) (d : decode cc pc = .ok (.invokestatic idx, 3)) (hcat : (S.map fun v => v.category).sum ≤ 8) (kk : ∀ (h1 : kx_H), Qc h1 → F (pc + 3) L S h1) : F pc L (a1 :: S) h := kx_callSVg C cs hM hdp d rfl hcat kk
theorem kx_callNV1 {own : String} {cc : ByteArray} {nL dp : Nat} {F : kx_F} (C : kx_Ru own cc nL dp F) {pc : Nat} {L : List (Option Value)} {S : List Value} {h : kx_H} {idx : Nat} {y : MethodName} {c1 : ByteArray} {n1 dp1 : Nat} {Qc : kx_H → Prop} {a1 : Value} (cs : kx_CN own idx y c1 n1 none 1) (hM : kx_MV dp1 y c1 n1 [a1] h Qc) (hdp : dp1 + 1 ≤ dp) (d : decode cc pc = .ok (.invokestatic idx, 3)) (hcat : (S.map fun v => v.category).sum ≤ 8) (kk : ∀ (h1 : kx_H), Qc h1 → F (pc + 3) L S h1) : F pc L (a1 :: S) h := kx_callNVg C cs hM hdp d rfl hcat kk
theorem kx_callVV1 {own : String} {cc : ByteArray} {nL dp : Nat} {F : kx_F} (C : kx_Ru own cc nL dp F) {pc : Nat} {L : List (Option Value)} {S : List Value} {h : kx_H} {idx : Nat} {y : MethodName} {c1 : ByteArray} {n1 dp1 : Nat} {Qc : kx_H → Prop} {a1 : Value} {i ci : Nat} (cs : kx_CV own idx y c1 n1 none 1 ci) (ho : kx_ob i ci) (hM : kx_MV dp1 y c1 n1 [.ref i, a1] h Qc) (hdp : dp1 + 1 ≤ dp) (d : decode cc pc = .ok (.invokevirtual idx, 3)) (hcat : (S.map fun v => v.category).sum ≤ 8) (kk : ∀ (h1 : kx_H), Qc h1 → F (pc + 3) L S h1) : F pc L (a1 :: .ref i :: S) h := kx_callVVg (as := [a1]) C cs ho hM hdp d rfl hcat kk
theorem kx_callSV2 {own : String} {cc : ByteArray} {nL dp : Nat} {F : kx_F} (C : kx_Ru own cc nL dp F) {pc : Nat} {L : List (Option Value)} {S : List Value} {h : kx_H} {idx : Nat} {y : MethodName} {c1 : ByteArray} {n1 dp1 : Nat} {Qc : kx_H → Prop} {a1 a2 : Value} (cs : kx_CS own idx y c1 n1 none 2) (hM : kx_MV dp1 y c1 n1 [a1, a2] h Qc) (hdp : dp1 + 1 ≤ dp) (d : decode cc pc = .ok (.invokestatic idx, 3)) (hcat : (S.map fun v => v.category).sum ≤ 8) (kk : ∀ (h1 : kx_H), Qc h1 → F (pc + 3) L S h1) : F pc L (a2 :: a1 :: S) h := kx_callSVg C cs hM hdp d rfl hcat kk
theorem kx_callNV2 {own : String} {cc : ByteArray} {nL dp : Nat} {F : kx_F} (C : kx_Ru own cc nL dp F) {pc : Nat} {L : List (Option Value)} {S : List Value} {h : kx_H} {idx : Nat} {y : MethodName} {c1 : ByteArray} {n1 dp1 : Nat} {Qc : kx_H → Prop} {a1 a2 : Value} (cs : kx_CN own idx y c1 n1 none 2) (hM : kx_MV dp1 y c1 n1 [a1, a2] h Qc) (hdp : dp1 + 1 ≤ dp) (d : decode cc pc = .ok (.invokestatic idx, 3)) (hcat : (S.map fun v => v.category).sum ≤ 8) (kk : ∀ (h1 : kx_H), Qc h1 → F (pc + 3) L S h1) : F pc L (a2 :: a1 :: S) h := kx_callNVg C cs hM hdp d rfl hcat kk
theorem kx_callVV2 {own : String} {cc : ByteArray} {nL dp : Nat} {F : kx_F} (C : kx_Ru own cc nL dp F) {pc : Nat} {L : List (Option Value)} {S : List Value} {h : kx_H} {idx : Nat} {y : MethodName} {c1 : ByteArray} {n1 dp1 : Nat} {Qc : kx_H → Prop} {a1 a2 : Value} {i ci : Nat} (cs : kx_CV own idx y c1 n1 none 2 ci) (ho : kx_ob i ci) (hM : kx_MV dp1 y c1 n1 [.ref i, a1, a2] h Qc) (hdp : dp1 + 1 ≤ dp) (d : decode cc pc = .ok (.invokevirtual idx, 3)) (hcat : (S.map fun v => v.category).sum ≤ 8) (kk : ∀ (h1 : kx_H), Qc h1 → F (pc + 3) L S h1) : F pc L (a2 :: a1 :: .ref i :: S) h := kx_callVVg (as := [a1, a2]) C cs ho hM hdp d rfl hcat kk
theorem kx_callSV3 {own : String} {cc : ByteArray} {nL dp : Nat} {F : kx_F} (C : kx_Ru own cc nL dp F) {pc : Nat} {L : List (Option Value)} {S : List Value} {h : kx_H} {idx : Nat} {y : MethodName} {c1 : ByteArray} {n1 dp1 : Nat} {Qc : kx_H → Prop} {a1 a2 a3 : Value} (cs : kx_CS own idx y c1 n1 none 3) (hM : kx_MV dp1 y c1 n1 [a1, a2, a3] h Qc) (hdp : dp1 + 1 ≤ dp) (d : decode cc pc = .ok (.invokestatic idx, 3)) (hcat : (S.map fun v => v.category).sum ≤ 8) (kk : ∀ (h1 : kx_H), Qc h1 → F (pc + 3) L S h1) : F pc L (a3 :: a2 :: a1 :: S) h := kx_callSVg C cs hM hdp d rfl hcat kk
theorem kx_callNV3 {own : String} {cc : ByteArray} {nL dp : Nat} {F : kx_F} (C : kx_Ru own cc nL dp F) {pc : Nat} {L : List (Option Value)} {S : List Value} {h : kx_H} {idx : Nat} {y : MethodName} {c1 : ByteArray} {n1 dp1 : Nat} {Qc : kx_H → Prop} {a1 a2 a3 : Value} (cs : kx_CN own idx y c1 n1 none 3) (hM : kx_MV dp1 y c1 n1 [a1, a2, a3] h Qc) (hdp : dp1 + 1 ≤ dp) (d : decode cc pc = .ok (.invokestatic idx, 3)) (hcat : (S.map fun v => v.category).sum ≤ 8) (kk : ∀ (h1 : kx_H), Qc h1 → F (pc + 3) L S h1) : F pc L (a3 :: a2 :: a1 :: S) h := kx_callNVg C cs hM hdp d rfl hcat kk
theorem kx_callVV3 {own : String} {cc : ByteArray} {nL dp : Nat} {F : kx_F} (C : kx_Ru own cc nL dp F) {pc : Nat} {L : List (Option Value)} {S : List Value} {h : kx_H} {idx : Nat} {y : MethodName} {c1 : ByteArray} {n1 dp1 : Nat} {Qc : kx_H → Prop} {a1 a2 a3 : Value} {i ci : Nat} (cs : kx_CV own idx y c1 n1 none 3 ci) (ho : kx_ob i ci) (hM : kx_MV dp1 y c1 n1 [.ref i, a1, a2, a3] h Qc) (hdp : dp1 + 1 ≤ dp) (d : decode cc pc = .ok (.invokevirtual idx, 3)) (hcat : (S.map fun v => v.category).sum ≤ 8) (kk : ∀ (h1 : kx_H), Qc h1 → F (pc + 3) L S h1) : F pc L (a3 :: a2 :: a1 :: .ref i :: S) h := kx_callVVg (as := [a1, a2, a3]) C cs ho hM hdp d rfl hcat kk
theorem kx_callSV4 {own : String} {cc : ByteArray} {nL dp : Nat} {F : kx_F} (C : kx_Ru own cc nL dp F) {pc : Nat} {L : List (Option Value)} {S : List Value} {h : kx_H} {idx : Nat} {y : MethodName} {c1 : ByteArray} {n1 dp1 : Nat} {Qc : kx_H → Prop} {a1 a2 a3 a4 : Value} (cs : kx_CS own idx y c1 n1 none 4) (hM : kx_MV dp1 y c1 n1 [a1, a2, a3, a4] h Qc) (hdp : dp1 + 1 ≤ dp) (d : decode cc pc = .ok (.invokestatic idx, 3)) (hcat : (S.map fun v => v.category).sum ≤ 8) (kk : ∀ (h1 : kx_H), Qc h1 → F (pc + 3) L S h1) : F pc L (a4 :: a3 :: a2 :: a1 :: S) h := kx_callSVg C cs hM hdp d rfl hcat kk
theorem kx_callNV4 {own : String} {cc : ByteArray} {nL dp : Nat} {F : kx_F} (C : kx_Ru own cc nL dp F) {pc : Nat} {L : List (Option Value)} {S : List Value} {h : kx_H} {idx : Nat} {y : MethodName} {c1 : ByteArray} {n1 dp1 : Nat} {Qc : kx_H → Prop} {a1 a2 a3 a4 : Value} (cs : kx_CN own idx y c1 n1 none 4) (hM : kx_MV dp1 y c1 n1 [a1, a2, a3, a4] h Qc) (hdp : dp1 + 1 ≤ dp) (d : decode cc pc = .ok (.invokestatic idx, 3)) (hcat : (S.map fun v => v.category).sum ≤ 8) (kk : ∀ (h1 : kx_H), Qc h1 → F (pc + 3) L S h1) : F pc L (a4 :: a3 :: a2 :: a1 :: S) h := kx_callNVg C cs hM hdp d rfl hcat kk
theorem kx_callVV4 {own : String} {cc : ByteArray} {nL dp : Nat} {F : kx_F} (C : kx_Ru own cc nL dp F) {pc : Nat} {L : List (Option Value)} {S : List Value} {h : kx_H} {idx : Nat} {y : MethodName} {c1 : ByteArray} {n1 dp1 : Nat} {Qc : kx_H → Prop} {a1 a2 a3 a4 : Value} {i ci : Nat} (cs : kx_CV own idx y c1 n1 none 4 ci) (ho : kx_ob i ci) (hM : kx_MV dp1 y c1 n1 [.ref i, a1, a2, a3, a4] h Qc) (hdp : dp1 + 1 ≤ dp) (d : decode cc pc = .ok (.invokevirtual idx, 3)) (hcat : (S.map fun v => v.category).sum ≤ 8) (kk : ∀ (h1 : kx_H), Qc h1 → F (pc + 3) L S h1) : F pc L (a4 :: a3 :: a2 :: a1 :: .ref i :: S) h := kx_callVVg (as := [a1, a2, a3, a4]) C cs ho hM hdp d rfl hcat kk
theorem kx_callSV5 {own : String} {cc : ByteArray} {nL dp : Nat} {F : kx_F} (C : kx_Ru own cc nL dp F) {pc : Nat} {L : List (Option Value)} {S : List Value} {h : kx_H} {idx : Nat} {y : MethodName} {c1 : ByteArray} {n1 dp1 : Nat} {Qc : kx_H → Prop} {a1 a2 a3 a4 a5 : Value} (cs : kx_CS own idx y c1 n1 none 5) (hM : kx_MV dp1 y c1 n1 [a1, a2, a3, a4, a5] h Qc) (hdp : dp1 + 1 ≤ dp) (d : decode cc pc = .ok (.invokestatic idx, 3)) (hcat : (S.map fun v => v.category).sum ≤ 8) (kk : ∀ (h1 : kx_H), Qc h1 → F (pc + 3) L S h1) : F pc L (a5 :: a4 :: a3 :: a2 :: a1 :: S) h := kx_callSVg C cs hM hdp d rfl hcat kk
theorem kx_callNV5 {own : String} {cc : ByteArray} {nL dp : Nat} {F : kx_F} (C : kx_Ru own cc nL dp F) {pc : Nat} {L : List (Option Value)} {S : List Value} {h : kx_H} {idx : Nat} {y : MethodName} {c1 : ByteArray} {n1 dp1 : Nat} {Qc : kx_H → Prop} {a1 a2 a3 a4 a5 : Value} (cs : kx_CN own idx y c1 n1 none 5) (hM : kx_MV dp1 y c1 n1 [a1, a2, a3, a4, a5] h Qc) (hdp : dp1 + 1 ≤ dp) (d : decode cc pc = .ok (.invokestatic idx, 3)) (hcat : (S.map fun v => v.category).sum ≤ 8) (kk : ∀ (h1 : kx_H), Qc h1 → F (pc + 3) L S h1) : F pc L (a5 :: a4 :: a3 :: a2 :: a1 :: S) h := kx_callNVg C cs hM hdp d rfl hcat kk
theorem kx_callVV5 {own : String} {cc : ByteArray} {nL dp : Nat} {F : kx_F} (C : kx_Ru own cc nL dp F) {pc : Nat} {L : List (Option Value)} {S : List Value} {h : kx_H} {idx : Nat} {y : MethodName} {c1 : ByteArray} {n1 dp1 : Nat} {Qc : kx_H → Prop} {a1 a2 a3 a4 a5 : Value} {i ci : Nat} (cs : kx_CV own idx y c1 n1 none 5 ci) (ho : kx_ob i ci) (hM : kx_MV dp1 y c1 n1 [.ref i, a1, a2, a3, a4, a5] h Qc) (hdp : dp1 + 1 ≤ dp) (d : decode cc pc = .ok (.invokevirtual idx, 3)) (hcat : (S.map fun v => v.category).sum ≤ 8) (kk : ∀ (h1 : kx_H), Qc h1 → F (pc + 3) L S h1) : F pc L (a5 :: a4 :: a3 :: a2 :: a1 :: .ref i :: S) h := kx_callVVg (as := [a1, a2, a3, a4, a5]) C cs ho hM hdp d rfl hcat kk
theorem kx_callSV6 {own : String} {cc : ByteArray} {nL dp : Nat} {F : kx_F} (C : kx_Ru own cc nL dp F) {pc : Nat} {L : List (Option Value)} {S : List Value} {h : kx_H} {idx : Nat} {y : MethodName} {c1 : ByteArray} {n1 dp1 : Nat} {Qc : kx_H → Prop} {a1 a2 a3 a4 a5 a6 : Value} (cs : kx_CS own idx y c1 n1 none 6) (hM : kx_MV dp1 y c1 n1 [a1, a2, a3, a4, a5, a6] h Qc) (hdp : dp1 + 1 ≤ dp) (d : decode cc pc = .ok (.invokestatic idx, 3)) (hcat : (S.map fun v => v.category).sum ≤ 8) (kk : ∀ (h1 : kx_H), Qc h1 → F (pc + 3) L S h1) : F pc L (a6 :: a5 :: a4 :: a3 :: a2 :: a1 :: S) h := kx_callSVg C cs hM hdp d rfl hcat kk
theorem kx_callNV6 {own : String} {cc : ByteArray} {nL dp : Nat} {F : kx_F} (C : kx_Ru own cc nL dp F) {pc : Nat} {L : List (Option Value)} {S : List Value} {h : kx_H} {idx : Nat} {y : MethodName} {c1 : ByteArray} {n1 dp1 : Nat} {Qc : kx_H → Prop} {a1 a2 a3 a4 a5 a6 : Value} (cs : kx_CN own idx y c1 n1 none 6) (hM : kx_MV dp1 y c1 n1 [a1, a2, a3, a4, a5, a6] h Qc) (hdp : dp1 + 1 ≤ dp) (d : decode cc pc = .ok (.invokestatic idx, 3)) (hcat : (S.map fun v => v.category).sum ≤ 8) (kk : ∀ (h1 : kx_H), Qc h1 → F (pc + 3) L S h1) : F pc L (a6 :: a5 :: a4 :: a3 :: a2 :: a1 :: S) h := kx_callNVg C cs hM hdp d rfl hcat kk
theorem kx_callVV6 {own : String} {cc : ByteArray} {nL dp : Nat} {F : kx_F} (C : kx_Ru own cc nL dp F) {pc : Nat} {L : List (Option Value)} {S : List Value} {h : kx_H} {idx : Nat} {y : MethodName} {c1 : ByteArray} {n1 dp1 : Nat} {Qc : kx_H → Prop} {a1 a2 a3 a4 a5 a6 : Value} {i ci : Nat} (cs : kx_CV own idx y c1 n1 none 6 ci) (ho : kx_ob i ci) (hM : kx_MV dp1 y c1 n1 [.ref i, a1, a2, a3, a4, a5, a6] h Qc) (hdp : dp1 + 1 ≤ dp) (d : decode cc pc = .ok (.invokevirtual idx, 3)) (hcat : (S.map fun v => v.category).sum ≤ 8) (kk : ∀ (h1 : kx_H), Qc h1 → F (pc + 3) L S h1) : F pc L (a6 :: a5 :: a4 :: a3 :: a2 :: a1 :: .ref i :: S) h := kx_callVVg (as := [a1, a2, a3, a4, a5, a6]) C cs ho hM hdp d rfl hcat kk
theorem kx_callSV7 {own : String} {cc : ByteArray} {nL dp : Nat} {F : kx_F} (C : kx_Ru own cc nL dp F) {pc : Nat} {L : List (Option Value)} {S : List Value} {h : kx_H} {idx : Nat} {y : MethodName} {c1 : ByteArray} {n1 dp1 : Nat} {Qc : kx_H → Prop} {a1 a2 a3 a4 a5 a6 a7 : Value} (cs : kx_CS own idx y c1 n1 none 7) (hM : kx_MV dp1 y c1 n1 [a1, a2, a3, a4, a5, a6, a7] h Qc) (hdp : dp1 + 1 ≤ dp) (d : decode cc pc = .ok (.invokestatic idx, 3)) (hcat : (S.map fun v => v.category).sum ≤ 8) (kk : ∀ (h1 : kx_H), Qc h1 → F (pc + 3) L S h1) : F pc L (a7 :: a6 :: a5 :: a4 :: a3 :: a2 :: a1 :: S) h := kx_callSVg C cs hM hdp d rfl hcat kk
theorem kx_callNV7 {own : String} {cc : ByteArray} {nL dp : Nat} {F : kx_F} (C : kx_Ru own cc nL dp F) {pc : Nat} {L : List (Option Value)} {S : List Value} {h : kx_H} {idx : Nat} {y : MethodName} {c1 : ByteArray} {n1 dp1 : Nat} {Qc : kx_H → Prop} {a1 a2 a3 a4 a5 a6 a7 : Value} (cs : kx_CN own idx y c1 n1 none 7) (hM : kx_MV dp1 y c1 n1 [a1, a2, a3, a4, a5, a6, a7] h Qc) (hdp : dp1 + 1 ≤ dp) (d : decode cc pc = .ok (.invokestatic idx, 3)) (hcat : (S.map fun v => v.category).sum ≤ 8) (kk : ∀ (h1 : kx_H), Qc h1 → F (pc + 3) L S h1) : F pc L (a7 :: a6 :: a5 :: a4 :: a3 :: a2 :: a1 :: S) h := kx_callNVg C cs hM hdp d rfl hcat kk
theorem kx_callVV7 {own : String} {cc : ByteArray} {nL dp : Nat} {F : kx_F} (C : kx_Ru own cc nL dp F) {pc : Nat} {L : List (Option Value)} {S : List Value} {h : kx_H} {idx : Nat} {y : MethodName} {c1 : ByteArray} {n1 dp1 : Nat} {Qc : kx_H → Prop} {a1 a2 a3 a4 a5 a6 a7 : Value} {i ci : Nat} (cs : kx_CV own idx y c1 n1 none 7 ci) (ho : kx_ob i ci) (hM : kx_MV dp1 y c1 n1 [.ref i, a1, a2, a3, a4, a5, a6, a7] h Qc) (hdp : dp1 + 1 ≤ dp) (d : decode cc pc = .ok (.invokevirtual idx, 3)) (hcat : (S.map fun v => v.category).sum ≤ 8) (kk : ∀ (h1 : kx_H), Qc h1 → F (pc + 3) L S h1) : F pc L (a7 :: a6 :: a5 :: a4 :: a3 :: a2 :: a1 :: .ref i :: S) h := kx_callVVg (as := [a1, a2, a3, a4, a5, a6, a7]) C cs ho hM hdp d rfl hcat kk
theorem kx_ild0 {own : String} {cc : ByteArray} {nL dp : Nat} {F : kx_F} (C : kx_Ru own cc nL dp F) {pc : Nat} {Lr : List (Option Value)} {S : List Value} {h : kx_H} {x : Int32} (d : decode cc pc = .ok (.iload_n 0, 1)) (k : F (pc + 1) (some (.int x) :: Lr) (.int x :: S) h) : F pc (some (.int x) :: Lr) S h := kx_iloadn_g C d rfl k
theorem kx_ist0 {own : String} {cc : ByteArray} {nL dp : Nat} {F : kx_F} (C : kx_Ru own cc nL dp F) {pc : Nat} {Lr : List (Option Value)} {S : List Value} {h : kx_H} {z : Option Value} {x : Int32} (d : decode cc pc = .ok (.istore_n 0, 1)) (hn : 0 < nL) (hc : kx_nl (z :: Lr) 0 = true) (k : F (pc + 1) (some (.int x) :: Lr) S h) : F pc (z :: Lr) (.int x :: S) h := kx_istoren_g C d hn hc k
theorem kx_ald0 {own : String} {cc : ByteArray} {nL dp : Nat} {F : kx_F} (C : kx_Ru own cc nL dp F) {pc : Nat} {Lr : List (Option Value)} {S : List Value} {h : kx_H} {x : Nat} (d : decode cc pc = .ok (.aload_n 0, 1)) (k : F (pc + 1) (some (.ref x) :: Lr) (.ref x :: S) h) : F pc (some (.ref x) :: Lr) S h := kx_aloadn_g C d rfl k
theorem kx_ast0 {own : String} {cc : ByteArray} {nL dp : Nat} {F : kx_F} (C : kx_Ru own cc nL dp F) {pc : Nat} {Lr : List (Option Value)} {S : List Value} {h : kx_H} {z : Option Value} {x : Nat} (d : decode cc pc = .ok (.astore_n 0, 1)) (hn : 0 < nL) (hc : kx_nl (z :: Lr) 0 = true) (k : F (pc + 1) (some (.ref x) :: Lr) S h) : F pc (z :: Lr) (.ref x :: S) h := kx_astoren_g C d hn hc k
theorem kx_lld0 {own : String} {cc : ByteArray} {nL dp : Nat} {F : kx_F} (C : kx_Ru own cc nL dp F) {pc : Nat} {Lr : List (Option Value)} {S : List Value} {h : kx_H} {x : Int64} (d : decode cc pc = .ok (.lload_n 0, 1)) (k : F (pc + 1) (some (.long x) :: Lr) (.long x :: S) h) : F pc (some (.long x) :: Lr) S h := kx_lloadn_g C d rfl k
theorem kx_inc0 {own : String} {cc : ByteArray} {nL dp : Nat} {F : kx_F} (C : kx_Ru own cc nL dp F) {pc : Nat} {Lr : List (Option Value)} {S : List Value} {h : kx_H} {n : Int} {x v : Int32} (d : decode cc pc = .ok (.iinc 0 n, 3)) (hn : 0 < nL) (hc : kx_nl (some (.int x) :: Lr) 0 = true) (hv : x + Int32.ofInt n = v) (k : F (pc + 3) (some (.int v) :: Lr) S h) : F pc (some (.int x) :: Lr) S h := kx_iinc_g C d rfl hv hn hc k
theorem kx_ild1 {own : String} {cc : ByteArray} {nL dp : Nat} {F : kx_F} (C : kx_Ru own cc nL dp F) {pc : Nat} {Lr : List (Option Value)} {S : List Value} {h : kx_H} {a0 : Option Value} {x : Int32} (d : decode cc pc = .ok (.iload_n 1, 1)) (k : F (pc + 1) (a0 :: some (.int x) :: Lr) (.int x :: S) h) : F pc (a0 :: some (.int x) :: Lr) S h := kx_iloadn_g C d rfl k
theorem kx_ist1 {own : String} {cc : ByteArray} {nL dp : Nat} {F : kx_F} (C : kx_Ru own cc nL dp F) {pc : Nat} {Lr : List (Option Value)} {S : List Value} {h : kx_H} {a0 : Option Value} {z : Option Value} {x : Int32} (d : decode cc pc = .ok (.istore_n 1, 1)) (hn : 1 < nL) (hc : kx_nl (a0 :: z :: Lr) 1 = true) (k : F (pc + 1) (a0 :: some (.int x) :: Lr) S h) : F pc (a0 :: z :: Lr) (.int x :: S) h := kx_istoren_g C d hn hc k
theorem kx_ald1 {own : String} {cc : ByteArray} {nL dp : Nat} {F : kx_F} (C : kx_Ru own cc nL dp F) {pc : Nat} {Lr : List (Option Value)} {S : List Value} {h : kx_H} {a0 : Option Value} {x : Nat} (d : decode cc pc = .ok (.aload_n 1, 1)) (k : F (pc + 1) (a0 :: some (.ref x) :: Lr) (.ref x :: S) h) : F pc (a0 :: some (.ref x) :: Lr) S h := kx_aloadn_g C d rfl k
theorem kx_ast1 {own : String} {cc : ByteArray} {nL dp : Nat} {F : kx_F} (C : kx_Ru own cc nL dp F) {pc : Nat} {Lr : List (Option Value)} {S : List Value} {h : kx_H} {a0 : Option Value} {z : Option Value} {x : Nat} (d : decode cc pc = .ok (.astore_n 1, 1)) (hn : 1 < nL) (hc : kx_nl (a0 :: z :: Lr) 1 = true) (k : F (pc + 1) (a0 :: some (.ref x) :: Lr) S h) : F pc (a0 :: z :: Lr) (.ref x :: S) h := kx_astoren_g C d hn hc k
theorem kx_lld1 {own : String} {cc : ByteArray} {nL dp : Nat} {F : kx_F} (C : kx_Ru own cc nL dp F) {pc : Nat} {Lr : List (Option Value)} {S : List Value} {h : kx_H} {a0 : Option Value} {x : Int64} (d : decode cc pc = .ok (.lload_n 1, 1)) (k : F (pc + 1) (a0 :: some (.long x) :: Lr) (.long x :: S) h) : F pc (a0 :: some (.long x) :: Lr) S h := kx_lloadn_g C d rfl k
theorem kx_inc1 {own : String} {cc : ByteArray} {nL dp : Nat} {F : kx_F} (C : kx_Ru own cc nL dp F) {pc : Nat} {Lr : List (Option Value)} {S : List Value} {h : kx_H} {a0 : Option Value} {n : Int} {x v : Int32} (d : decode cc pc = .ok (.iinc 1 n, 3)) (hn : 1 < nL) (hc : kx_nl (a0 :: some (.int x) :: Lr) 1 = true) (hv : x + Int32.ofInt n = v) (k : F (pc + 3) (a0 :: some (.int v) :: Lr) S h) : F pc (a0 :: some (.int x) :: Lr) S h := kx_iinc_g C d rfl hv hn hc k
theorem kx_ild2 {own : String} {cc : ByteArray} {nL dp : Nat} {F : kx_F} (C : kx_Ru own cc nL dp F) {pc : Nat} {Lr : List (Option Value)} {S : List Value} {h : kx_H} {a0 a1 : Option Value} {x : Int32} (d : decode cc pc = .ok (.iload_n 2, 1)) (k : F (pc + 1) (a0 :: a1 :: some (.int x) :: Lr) (.int x :: S) h) : F pc (a0 :: a1 :: some (.int x) :: Lr) S h := kx_iloadn_g C d rfl k
theorem kx_ist2 {own : String} {cc : ByteArray} {nL dp : Nat} {F : kx_F} (C : kx_Ru own cc nL dp F) {pc : Nat} {Lr : List (Option Value)} {S : List Value} {h : kx_H} {a0 a1 : Option Value} {z : Option Value} {x : Int32} (d : decode cc pc = .ok (.istore_n 2, 1)) (hn : 2 < nL) (hc : kx_nl (a0 :: a1 :: z :: Lr) 2 = true) (k : F (pc + 1) (a0 :: a1 :: some (.int x) :: Lr) S h) : F pc (a0 :: a1 :: z :: Lr) (.int x :: S) h := kx_istoren_g C d hn hc k
theorem kx_ald2 {own : String} {cc : ByteArray} {nL dp : Nat} {F : kx_F} (C : kx_Ru own cc nL dp F) {pc : Nat} {Lr : List (Option Value)} {S : List Value} {h : kx_H} {a0 a1 : Option Value} {x : Nat} (d : decode cc pc = .ok (.aload_n 2, 1)) (k : F (pc + 1) (a0 :: a1 :: some (.ref x) :: Lr) (.ref x :: S) h) : F pc (a0 :: a1 :: some (.ref x) :: Lr) S h := kx_aloadn_g C d rfl k
theorem kx_ast2 {own : String} {cc : ByteArray} {nL dp : Nat} {F : kx_F} (C : kx_Ru own cc nL dp F) {pc : Nat} {Lr : List (Option Value)} {S : List Value} {h : kx_H} {a0 a1 : Option Value} {z : Option Value} {x : Nat} (d : decode cc pc = .ok (.astore_n 2, 1)) (hn : 2 < nL) (hc : kx_nl (a0 :: a1 :: z :: Lr) 2 = true) (k : F (pc + 1) (a0 :: a1 :: some (.ref x) :: Lr) S h) : F pc (a0 :: a1 :: z :: Lr) (.ref x :: S) h := kx_astoren_g C d hn hc k
theorem kx_lld2 {own : String} {cc : ByteArray} {nL dp : Nat} {F : kx_F} (C : kx_Ru own cc nL dp F) {pc : Nat} {Lr : List (Option Value)} {S : List Value} {h : kx_H} {a0 a1 : Option Value} {x : Int64} (d : decode cc pc = .ok (.lload_n 2, 1)) (k : F (pc + 1) (a0 :: a1 :: some (.long x) :: Lr) (.long x :: S) h) : F pc (a0 :: a1 :: some (.long x) :: Lr) S h := kx_lloadn_g C d rfl k
theorem kx_inc2 {own : String} {cc : ByteArray} {nL dp : Nat} {F : kx_F} (C : kx_Ru own cc nL dp F) {pc : Nat} {Lr : List (Option Value)} {S : List Value} {h : kx_H} {a0 a1 : Option Value} {n : Int} {x v : Int32} (d : decode cc pc = .ok (.iinc 2 n, 3)) (hn : 2 < nL) (hc : kx_nl (a0 :: a1 :: some (.int x) :: Lr) 2 = true) (hv : x + Int32.ofInt n = v) (k : F (pc + 3) (a0 :: a1 :: some (.int v) :: Lr) S h) : F pc (a0 :: a1 :: some (.int x) :: Lr) S h := kx_iinc_g C d rfl hv hn hc k
theorem kx_ild3 {own : String} {cc : ByteArray} {nL dp : Nat} {F : kx_F} (C : kx_Ru own cc nL dp F) {pc : Nat} {Lr : List (Option Value)} {S : List Value} {h : kx_H} {a0 a1 a2 : Option Value} {x : Int32} (d : decode cc pc = .ok (.iload_n 3, 1)) (k : F (pc + 1) (a0 :: a1 :: a2 :: some (.int x) :: Lr) (.int x :: S) h) : F pc (a0 :: a1 :: a2 :: some (.int x) :: Lr) S h := kx_iloadn_g C d rfl k
theorem kx_ist3 {own : String} {cc : ByteArray} {nL dp : Nat} {F : kx_F} (C : kx_Ru own cc nL dp F) {pc : Nat} {Lr : List (Option Value)} {S : List Value} {h : kx_H} {a0 a1 a2 : Option Value} {z : Option Value} {x : Int32} (d : decode cc pc = .ok (.istore_n 3, 1)) (hn : 3 < nL) (hc : kx_nl (a0 :: a1 :: a2 :: z :: Lr) 3 = true) (k : F (pc + 1) (a0 :: a1 :: a2 :: some (.int x) :: Lr) S h) : F pc (a0 :: a1 :: a2 :: z :: Lr) (.int x :: S) h := kx_istoren_g C d hn hc k
theorem kx_ald3 {own : String} {cc : ByteArray} {nL dp : Nat} {F : kx_F} (C : kx_Ru own cc nL dp F) {pc : Nat} {Lr : List (Option Value)} {S : List Value} {h : kx_H} {a0 a1 a2 : Option Value} {x : Nat} (d : decode cc pc = .ok (.aload_n 3, 1)) (k : F (pc + 1) (a0 :: a1 :: a2 :: some (.ref x) :: Lr) (.ref x :: S) h) : F pc (a0 :: a1 :: a2 :: some (.ref x) :: Lr) S h := kx_aloadn_g C d rfl k
theorem kx_ast3 {own : String} {cc : ByteArray} {nL dp : Nat} {F : kx_F} (C : kx_Ru own cc nL dp F) {pc : Nat} {Lr : List (Option Value)} {S : List Value} {h : kx_H} {a0 a1 a2 : Option Value} {z : Option Value} {x : Nat} (d : decode cc pc = .ok (.astore_n 3, 1)) (hn : 3 < nL) (hc : kx_nl (a0 :: a1 :: a2 :: z :: Lr) 3 = true) (k : F (pc + 1) (a0 :: a1 :: a2 :: some (.ref x) :: Lr) S h) : F pc (a0 :: a1 :: a2 :: z :: Lr) (.ref x :: S) h := kx_astoren_g C d hn hc k
theorem kx_lld3 {own : String} {cc : ByteArray} {nL dp : Nat} {F : kx_F} (C : kx_Ru own cc nL dp F) {pc : Nat} {Lr : List (Option Value)} {S : List Value} {h : kx_H} {a0 a1 a2 : Option Value} {x : Int64} (d : decode cc pc = .ok (.lload_n 3, 1)) (k : F (pc + 1) (a0 :: a1 :: a2 :: some (.long x) :: Lr) (.long x :: S) h) : F pc (a0 :: a1 :: a2 :: some (.long x) :: Lr) S h := kx_lloadn_g C d rfl k
theorem kx_inc3 {own : String} {cc : ByteArray} {nL dp : Nat} {F : kx_F} (C : kx_Ru own cc nL dp F) {pc : Nat} {Lr : List (Option Value)} {S : List Value} {h : kx_H} {a0 a1 a2 : Option Value} {n : Int} {x v : Int32} (d : decode cc pc = .ok (.iinc 3 n, 3)) (hn : 3 < nL) (hc : kx_nl (a0 :: a1 :: a2 :: some (.int x) :: Lr) 3 = true) (hv : x + Int32.ofInt n = v) (k : F (pc + 3) (a0 :: a1 :: a2 :: some (.int v) :: Lr) S h) : F pc (a0 :: a1 :: a2 :: some (.int x) :: Lr) S h := kx_iinc_g C d rfl hv hn hc k
theorem kx_ild4 {own : String} {cc : ByteArray} {nL dp : Nat} {F : kx_F} (C : kx_Ru own cc nL dp F) {pc : Nat} {Lr : List (Option Value)} {S : List Value} {h : kx_H} {a0 a1 a2 a3 : Option Value} {x : Int32} (d : decode cc pc = .ok (.iload 4, 2)) (k : F (pc + 2) (a0 :: a1 :: a2 :: a3 :: some (.int x) :: Lr) (.int x :: S) h) : F pc (a0 :: a1 :: a2 :: a3 :: some (.int x) :: Lr) S h := kx_iload_g C d rfl k
theorem kx_ist4 {own : String} {cc : ByteArray} {nL dp : Nat} {F : kx_F} (C : kx_Ru own cc nL dp F) {pc : Nat} {Lr : List (Option Value)} {S : List Value} {h : kx_H} {a0 a1 a2 a3 : Option Value} {z : Option Value} {x : Int32} (d : decode cc pc = .ok (.istore 4, 2)) (hn : 4 < nL) (hc : kx_nl (a0 :: a1 :: a2 :: a3 :: z :: Lr) 4 = true) (k : F (pc + 2) (a0 :: a1 :: a2 :: a3 :: some (.int x) :: Lr) S h) : F pc (a0 :: a1 :: a2 :: a3 :: z :: Lr) (.int x :: S) h := kx_istore_g C d hn hc k
theorem kx_ald4 {own : String} {cc : ByteArray} {nL dp : Nat} {F : kx_F} (C : kx_Ru own cc nL dp F) {pc : Nat} {Lr : List (Option Value)} {S : List Value} {h : kx_H} {a0 a1 a2 a3 : Option Value} {x : Nat} (d : decode cc pc = .ok (.aload 4, 2)) (k : F (pc + 2) (a0 :: a1 :: a2 :: a3 :: some (.ref x) :: Lr) (.ref x :: S) h) : F pc (a0 :: a1 :: a2 :: a3 :: some (.ref x) :: Lr) S h := kx_aload_g C d rfl k
theorem kx_ast4 {own : String} {cc : ByteArray} {nL dp : Nat} {F : kx_F} (C : kx_Ru own cc nL dp F) {pc : Nat} {Lr : List (Option Value)} {S : List Value} {h : kx_H} {a0 a1 a2 a3 : Option Value} {z : Option Value} {x : Nat} (d : decode cc pc = .ok (.astore 4, 2)) (hn : 4 < nL) (hc : kx_nl (a0 :: a1 :: a2 :: a3 :: z :: Lr) 4 = true) (k : F (pc + 2) (a0 :: a1 :: a2 :: a3 :: some (.ref x) :: Lr) S h) : F pc (a0 :: a1 :: a2 :: a3 :: z :: Lr) (.ref x :: S) h := kx_astore_g C d hn hc k
theorem kx_lld4 {own : String} {cc : ByteArray} {nL dp : Nat} {F : kx_F} (C : kx_Ru own cc nL dp F) {pc : Nat} {Lr : List (Option Value)} {S : List Value} {h : kx_H} {a0 a1 a2 a3 : Option Value} {x : Int64} (d : decode cc pc = .ok (.lload 4, 2)) (k : F (pc + 2) (a0 :: a1 :: a2 :: a3 :: some (.long x) :: Lr) (.long x :: S) h) : F pc (a0 :: a1 :: a2 :: a3 :: some (.long x) :: Lr) S h := kx_lload_g C d rfl k
theorem kx_inc4 {own : String} {cc : ByteArray} {nL dp : Nat} {F : kx_F} (C : kx_Ru own cc nL dp F) {pc : Nat} {Lr : List (Option Value)} {S : List Value} {h : kx_H} {a0 a1 a2 a3 : Option Value} {n : Int} {x v : Int32} (d : decode cc pc = .ok (.iinc 4 n, 3)) (hn : 4 < nL) (hc : kx_nl (a0 :: a1 :: a2 :: a3 :: some (.int x) :: Lr) 4 = true) (hv : x + Int32.ofInt n = v) (k : F (pc + 3) (a0 :: a1 :: a2 :: a3 :: some (.int v) :: Lr) S h) : F pc (a0 :: a1 :: a2 :: a3 :: some (.int x) :: Lr) S h := kx_iinc_g C d rfl hv hn hc k
theorem kx_ild5 {own : String} {cc : ByteArray} {nL dp : Nat} {F : kx_F} (C : kx_Ru own cc nL dp F) {pc : Nat} {Lr : List (Option Value)} {S : List Value} {h : kx_H} {a0 a1 a2 a3 a4 : Option Value} {x : Int32} (d : decode cc pc = .ok (.iload 5, 2)) (k : F (pc + 2) (a0 :: a1 :: a2 :: a3 :: a4 :: some (.int x) :: Lr) (.int x :: S) h) : F pc (a0 :: a1 :: a2 :: a3 :: a4 :: some (.int x) :: Lr) S h := kx_iload_g C d rfl k
theorem kx_ist5 {own : String} {cc : ByteArray} {nL dp : Nat} {F : kx_F} (C : kx_Ru own cc nL dp F) {pc : Nat} {Lr : List (Option Value)} {S : List Value} {h : kx_H} {a0 a1 a2 a3 a4 : Option Value} {z : Option Value} {x : Int32} (d : decode cc pc = .ok (.istore 5, 2)) (hn : 5 < nL) (hc : kx_nl (a0 :: a1 :: a2 :: a3 :: a4 :: z :: Lr) 5 = true) (k : F (pc + 2) (a0 :: a1 :: a2 :: a3 :: a4 :: some (.int x) :: Lr) S h) : F pc (a0 :: a1 :: a2 :: a3 :: a4 :: z :: Lr) (.int x :: S) h := kx_istore_g C d hn hc k
theorem kx_ald5 {own : String} {cc : ByteArray} {nL dp : Nat} {F : kx_F} (C : kx_Ru own cc nL dp F) {pc : Nat} {Lr : List (Option Value)} {S : List Value} {h : kx_H} {a0 a1 a2 a3 a4 : Option Value} {x : Nat} (d : decode cc pc = .ok (.aload 5, 2)) (k : F (pc + 2) (a0 :: a1 :: a2 :: a3 :: a4 :: some (.ref x) :: Lr) (.ref x :: S) h) : F pc (a0 :: a1 :: a2 :: a3 :: a4 :: some (.ref x) :: Lr) S h := kx_aload_g C d rfl k
theorem kx_ast5 {own : String} {cc : ByteArray} {nL dp : Nat} {F : kx_F} (C : kx_Ru own cc nL dp F) {pc : Nat} {Lr : List (Option Value)} {S : List Value} {h : kx_H} {a0 a1 a2 a3 a4 : Option Value} {z : Option Value} {x : Nat} (d : decode cc pc = .ok (.astore 5, 2)) (hn : 5 < nL) (hc : kx_nl (a0 :: a1 :: a2 :: a3 :: a4 :: z :: Lr) 5 = true) (k : F (pc + 2) (a0 :: a1 :: a2 :: a3 :: a4 :: some (.ref x) :: Lr) S h) : F pc (a0 :: a1 :: a2 :: a3 :: a4 :: z :: Lr) (.ref x :: S) h := kx_astore_g C d hn hc k
theorem kx_lld5 {own : String} {cc : ByteArray} {nL dp : Nat} {F : kx_F} (C : kx_Ru own cc nL dp F) {pc : Nat} {Lr : List (Option Value)} {S : List Value} {h : kx_H} {a0 a1 a2 a3 a4 : Option Value} {x : Int64} (d : decode cc pc = .ok (.lload 5, 2)) (k : F (pc + 2) (a0 :: a1 :: a2 :: a3 :: a4 :: some (.long x) :: Lr) (.long x :: S) h) : F pc (a0 :: a1 :: a2 :: a3 :: a4 :: some (.long x) :: Lr) S h := kx_lload_g C d rfl k
theorem kx_inc5 {own : String} {cc : ByteArray} {nL dp : Nat} {F : kx_F} (C : kx_Ru own cc nL dp F) {pc : Nat} {Lr : List (Option Value)} {S : List Value} {h : kx_H} {a0 a1 a2 a3 a4 : Option Value} {n : Int} {x v : Int32} (d : decode cc pc = .ok (.iinc 5 n, 3)) (hn : 5 < nL) (hc : kx_nl (a0 :: a1 :: a2 :: a3 :: a4 :: some (.int x) :: Lr) 5 = true) (hv : x + Int32.ofInt n = v) (k : F (pc + 3) (a0 :: a1 :: a2 :: a3 :: a4 :: some (.int v) :: Lr) S h) : F pc (a0 :: a1 :: a2 :: a3 :: a4 :: some (.int x) :: Lr) S h := kx_iinc_g C d rfl hv hn hc k
theorem kx_ild6 {own : String} {cc : ByteArray} {nL dp : Nat} {F : kx_F} (C : kx_Ru own cc nL dp F) {pc : Nat} {Lr : List (Option Value)} {S : List Value} {h : kx_H} {a0 a1 a2 a3 a4 a5 : Option Value} {x : Int32} (d : decode cc pc = .ok (.iload 6, 2)) (k : F (pc + 2) (a0 :: a1 :: a2 :: a3 :: a4 :: a5 :: some (.int x) :: Lr) (.int x :: S) h) : F pc (a0 :: a1 :: a2 :: a3 :: a4 :: a5 :: some (.int x) :: Lr) S h := kx_iload_g C d rfl k
theorem kx_ist6 {own : String} {cc : ByteArray} {nL dp : Nat} {F : kx_F} (C : kx_Ru own cc nL dp F) {pc : Nat} {Lr : List (Option Value)} {S : List Value} {h : kx_H} {a0 a1 a2 a3 a4 a5 : Option Value} {z : Option Value} {x : Int32} (d : decode cc pc = .ok (.istore 6, 2)) (hn : 6 < nL) (hc : kx_nl (a0 :: a1 :: a2 :: a3 :: a4 :: a5 :: z :: Lr) 6 = true) (k : F (pc + 2) (a0 :: a1 :: a2 :: a3 :: a4 :: a5 :: some (.int x) :: Lr) S h) : F pc (a0 :: a1 :: a2 :: a3 :: a4 :: a5 :: z :: Lr) (.int x :: S) h := kx_istore_g C d hn hc k
theorem kx_ald6 {own : String} {cc : ByteArray} {nL dp : Nat} {F : kx_F} (C : kx_Ru own cc nL dp F) {pc : Nat} {Lr : List (Option Value)} {S : List Value} {h : kx_H} {a0 a1 a2 a3 a4 a5 : Option Value} {x : Nat} (d : decode cc pc = .ok (.aload 6, 2)) (k : F (pc + 2) (a0 :: a1 :: a2 :: a3 :: a4 :: a5 :: some (.ref x) :: Lr) (.ref x :: S) h) : F pc (a0 :: a1 :: a2 :: a3 :: a4 :: a5 :: some (.ref x) :: Lr) S h := kx_aload_g C d rfl k
theorem kx_ast6 {own : String} {cc : ByteArray} {nL dp : Nat} {F : kx_F} (C : kx_Ru own cc nL dp F) {pc : Nat} {Lr : List (Option Value)} {S : List Value} {h : kx_H} {a0 a1 a2 a3 a4 a5 : Option Value} {z : Option Value} {x : Nat} (d : decode cc pc = .ok (.astore 6, 2)) (hn : 6 < nL) (hc : kx_nl (a0 :: a1 :: a2 :: a3 :: a4 :: a5 :: z :: Lr) 6 = true) (k : F (pc + 2) (a0 :: a1 :: a2 :: a3 :: a4 :: a5 :: some (.ref x) :: Lr) S h) : F pc (a0 :: a1 :: a2 :: a3 :: a4 :: a5 :: z :: Lr) (.ref x :: S) h := kx_astore_g C d hn hc k
theorem kx_lld6 {own : String} {cc : ByteArray} {nL dp : Nat} {F : kx_F} (C : kx_Ru own cc nL dp F) {pc : Nat} {Lr : List (Option Value)} {S : List Value} {h : kx_H} {a0 a1 a2 a3 a4 a5 : Option Value} {x : Int64} (d : decode cc pc = .ok (.lload 6, 2)) (k : F (pc + 2) (a0 :: a1 :: a2 :: a3 :: a4 :: a5 :: some (.long x) :: Lr) (.long x :: S) h) : F pc (a0 :: a1 :: a2 :: a3 :: a4 :: a5 :: some (.long x) :: Lr) S h := kx_lload_g C d rfl k
theorem kx_inc6 {own : String} {cc : ByteArray} {nL dp : Nat} {F : kx_F} (C : kx_Ru own cc nL dp F) {pc : Nat} {Lr : List (Option Value)} {S : List Value} {h : kx_H} {a0 a1 a2 a3 a4 a5 : Option Value} {n : Int} {x v : Int32} (d : decode cc pc = .ok (.iinc 6 n, 3)) (hn : 6 < nL) (hc : kx_nl (a0 :: a1 :: a2 :: a3 :: a4 :: a5 :: some (.int x) :: Lr) 6 = true) (hv : x + Int32.ofInt n = v) (k : F (pc + 3) (a0 :: a1 :: a2 :: a3 :: a4 :: a5 :: some (.int v) :: Lr) S h) : F pc (a0 :: a1 :: a2 :: a3 :: a4 :: a5 :: some (.int x) :: Lr) S h := kx_iinc_g C d rfl hv hn hc k
theorem kx_ild7 {own : String} {cc : ByteArray} {nL dp : Nat} {F : kx_F} (C : kx_Ru own cc nL dp F) {pc : Nat} {Lr : List (Option Value)} {S : List Value} {h : kx_H} {a0 a1 a2 a3 a4 a5 a6 : Option Value} {x : Int32} (d : decode cc pc = .ok (.iload 7, 2)) (k : F (pc + 2) (a0 :: a1 :: a2 :: a3 :: a4 :: a5 :: a6 :: some (.int x) :: Lr) (.int x :: S) h) : F pc (a0 :: a1 :: a2 :: a3 :: a4 :: a5 :: a6 :: some (.int x) :: Lr) S h := kx_iload_g C d rfl k
theorem kx_ist7 {own : String} {cc : ByteArray} {nL dp : Nat} {F : kx_F} (C : kx_Ru own cc nL dp F) {pc : Nat} {Lr : List (Option Value)} {S : List Value} {h : kx_H} {a0 a1 a2 a3 a4 a5 a6 : Option Value} {z : Option Value} {x : Int32} (d : decode cc pc = .ok (.istore 7, 2)) (hn : 7 < nL) (hc : kx_nl (a0 :: a1 :: a2 :: a3 :: a4 :: a5 :: a6 :: z :: Lr) 7 = true) (k : F (pc + 2) (a0 :: a1 :: a2 :: a3 :: a4 :: a5 :: a6 :: some (.int x) :: Lr) S h) : F pc (a0 :: a1 :: a2 :: a3 :: a4 :: a5 :: a6 :: z :: Lr) (.int x :: S) h := kx_istore_g C d hn hc k
theorem kx_ald7 {own : String} {cc : ByteArray} {nL dp : Nat} {F : kx_F} (C : kx_Ru own cc nL dp F) {pc : Nat} {Lr : List (Option Value)} {S : List Value} {h : kx_H} {a0 a1 a2 a3 a4 a5 a6 : Option Value} {x : Nat} (d : decode cc pc = .ok (.aload 7, 2)) (k : F (pc + 2) (a0 :: a1 :: a2 :: a3 :: a4 :: a5 :: a6 :: some (.ref x) :: Lr) (.ref x :: S) h) : F pc (a0 :: a1 :: a2 :: a3 :: a4 :: a5 :: a6 :: some (.ref x) :: Lr) S h := kx_aload_g C d rfl k
theorem kx_ast7 {own : String} {cc : ByteArray} {nL dp : Nat} {F : kx_F} (C : kx_Ru own cc nL dp F) {pc : Nat} {Lr : List (Option Value)} {S : List Value} {h : kx_H} {a0 a1 a2 a3 a4 a5 a6 : Option Value} {z : Option Value} {x : Nat} (d : decode cc pc = .ok (.astore 7, 2)) (hn : 7 < nL) (hc : kx_nl (a0 :: a1 :: a2 :: a3 :: a4 :: a5 :: a6 :: z :: Lr) 7 = true) (k : F (pc + 2) (a0 :: a1 :: a2 :: a3 :: a4 :: a5 :: a6 :: some (.ref x) :: Lr) S h) : F pc (a0 :: a1 :: a2 :: a3 :: a4 :: a5 :: a6 :: z :: Lr) (.ref x :: S) h := kx_astore_g C d hn hc k
theorem kx_lld7 {own : String} {cc : ByteArray} {nL dp : Nat} {F : kx_F} (C : kx_Ru own cc nL dp F) {pc : Nat} {Lr : List (Option Value)} {S : List Value} {h : kx_H} {a0 a1 a2 a3 a4 a5 a6 : Option Value} {x : Int64} (d : decode cc pc = .ok (.lload 7, 2)) (k : F (pc + 2) (a0 :: a1 :: a2 :: a3 :: a4 :: a5 :: a6 :: some (.long x) :: Lr) (.long x :: S) h) : F pc (a0 :: a1 :: a2 :: a3 :: a4 :: a5 :: a6 :: some (.long x) :: Lr) S h := kx_lload_g C d rfl k
theorem kx_inc7 {own : String} {cc : ByteArray} {nL dp : Nat} {F : kx_F} (C : kx_Ru own cc nL dp F) {pc : Nat} {Lr : List (Option Value)} {S : List Value} {h : kx_H} {a0 a1 a2 a3 a4 a5 a6 : Option Value} {n : Int} {x v : Int32} (d : decode cc pc = .ok (.iinc 7 n, 3)) (hn : 7 < nL) (hc : kx_nl (a0 :: a1 :: a2 :: a3 :: a4 :: a5 :: a6 :: some (.int x) :: Lr) 7 = true) (hv : x + Int32.ofInt n = v) (k : F (pc + 3) (a0 :: a1 :: a2 :: a3 :: a4 :: a5 :: a6 :: some (.int v) :: Lr) S h) : F pc (a0 :: a1 :: a2 :: a3 :: a4 :: a5 :: a6 :: some (.int x) :: Lr) S h := kx_iinc_g C d rfl hv hn hc k
theorem kx_ild8 {own : String} {cc : ByteArray} {nL dp : Nat} {F : kx_F} (C : kx_Ru own cc nL dp F) {pc : Nat} {Lr : List (Option Value)} {S : List Value} {h : kx_H} {a0 a1 a2 a3 a4 a5 a6 a7 : Option Value} {x : Int32} (d : decode cc pc = .ok (.iload 8, 2)) (k : F (pc + 2) (a0 :: a1 :: a2 :: a3 :: a4 :: a5 :: a6 :: a7 :: some (.int x) :: Lr) (.int x :: S) h) : F pc (a0 :: a1 :: a2 :: a3 :: a4 :: a5 :: a6 :: a7 :: some (.int x) :: Lr) S h := kx_iload_g C d rfl k
theorem kx_ist8 {own : String} {cc : ByteArray} {nL dp : Nat} {F : kx_F} (C : kx_Ru own cc nL dp F) {pc : Nat} {Lr : List (Option Value)} {S : List Value} {h : kx_H} {a0 a1 a2 a3 a4 a5 a6 a7 : Option Value} {z : Option Value} {x : Int32} (d : decode cc pc = .ok (.istore 8, 2)) (hn : 8 < nL) (hc : kx_nl (a0 :: a1 :: a2 :: a3 :: a4 :: a5 :: a6 :: a7 :: z :: Lr) 8 = true) (k : F (pc + 2) (a0 :: a1 :: a2 :: a3 :: a4 :: a5 :: a6 :: a7 :: some (.int x) :: Lr) S h) : F pc (a0 :: a1 :: a2 :: a3 :: a4 :: a5 :: a6 :: a7 :: z :: Lr) (.int x :: S) h := kx_istore_g C d hn hc k
theorem kx_ald8 {own : String} {cc : ByteArray} {nL dp : Nat} {F : kx_F} (C : kx_Ru own cc nL dp F) {pc : Nat} {Lr : List (Option Value)} {S : List Value} {h : kx_H} {a0 a1 a2 a3 a4 a5 a6 a7 : Option Value} {x : Nat} (d : decode cc pc = .ok (.aload 8, 2)) (k : F (pc + 2) (a0 :: a1 :: a2 :: a3 :: a4 :: a5 :: a6 :: a7 :: some (.ref x) :: Lr) (.ref x :: S) h) : F pc (a0 :: a1 :: a2 :: a3 :: a4 :: a5 :: a6 :: a7 :: some (.ref x) :: Lr) S h := kx_aload_g C d rfl k
theorem kx_ast8 {own : String} {cc : ByteArray} {nL dp : Nat} {F : kx_F} (C : kx_Ru own cc nL dp F) {pc : Nat} {Lr : List (Option Value)} {S : List Value} {h : kx_H} {a0 a1 a2 a3 a4 a5 a6 a7 : Option Value} {z : Option Value} {x : Nat} (d : decode cc pc = .ok (.astore 8, 2)) (hn : 8 < nL) (hc : kx_nl (a0 :: a1 :: a2 :: a3 :: a4 :: a5 :: a6 :: a7 :: z :: Lr) 8 = true) (k : F (pc + 2) (a0 :: a1 :: a2 :: a3 :: a4 :: a5 :: a6 :: a7 :: some (.ref x) :: Lr) S h) : F pc (a0 :: a1 :: a2 :: a3 :: a4 :: a5 :: a6 :: a7 :: z :: Lr) (.ref x :: S) h := kx_astore_g C d hn hc k
theorem kx_lld8 {own : String} {cc : ByteArray} {nL dp : Nat} {F : kx_F} (C : kx_Ru own cc nL dp F) {pc : Nat} {Lr : List (Option Value)} {S : List Value} {h : kx_H} {a0 a1 a2 a3 a4 a5 a6 a7 : Option Value} {x : Int64} (d : decode cc pc = .ok (.lload 8, 2)) (k : F (pc + 2) (a0 :: a1 :: a2 :: a3 :: a4 :: a5 :: a6 :: a7 :: some (.long x) :: Lr) (.long x :: S) h) : F pc (a0 :: a1 :: a2 :: a3 :: a4 :: a5 :: a6 :: a7 :: some (.long x) :: Lr) S h := kx_lload_g C d rfl k
theorem kx_inc8 {own : String} {cc : ByteArray} {nL dp : Nat} {F : kx_F} (C : kx_Ru own cc nL dp F) {pc : Nat} {Lr : List (Option Value)} {S : List Value} {h : kx_H} {a0 a1 a2 a3 a4 a5 a6 a7 : Option Value} {n : Int} {x v : Int32} (d : decode cc pc = .ok (.iinc 8 n, 3)) (hn : 8 < nL) (hc : kx_nl (a0 :: a1 :: a2 :: a3 :: a4 :: a5 :: a6 :: a7 :: some (.int x) :: Lr) 8 = true) (hv : x + Int32.ofInt n = v) (k : F (pc + 3) (a0 :: a1 :: a2 :: a3 :: a4 :: a5 :: a6 :: a7 :: some (.int v) :: Lr) S h) : F pc (a0 :: a1 :: a2 :: a3 :: a4 :: a5 :: a6 :: a7 :: some (.int x) :: Lr) S h := kx_iinc_g C d rfl hv hn hc k
theorem kx_ild9 {own : String} {cc : ByteArray} {nL dp : Nat} {F : kx_F} (C : kx_Ru own cc nL dp F) {pc : Nat} {Lr : List (Option Value)} {S : List Value} {h : kx_H} {a0 a1 a2 a3 a4 a5 a6 a7 a8 : Option Value} {x : Int32} (d : decode cc pc = .ok (.iload 9, 2)) (k : F (pc + 2) (a0 :: a1 :: a2 :: a3 :: a4 :: a5 :: a6 :: a7 :: a8 :: some (.int x) :: Lr) (.int x :: S) h) : F pc (a0 :: a1 :: a2 :: a3 :: a4 :: a5 :: a6 :: a7 :: a8 :: some (.int x) :: Lr) S h := kx_iload_g C d rfl k
theorem kx_ist9 {own : String} {cc : ByteArray} {nL dp : Nat} {F : kx_F} (C : kx_Ru own cc nL dp F) {pc : Nat} {Lr : List (Option Value)} {S : List Value} {h : kx_H} {a0 a1 a2 a3 a4 a5 a6 a7 a8 : Option Value} {z : Option Value} {x : Int32} (d : decode cc pc = .ok (.istore 9, 2)) (hn : 9 < nL) (hc : kx_nl (a0 :: a1 :: a2 :: a3 :: a4 :: a5 :: a6 :: a7 :: a8 :: z :: Lr) 9 = true) (k : F (pc + 2) (a0 :: a1 :: a2 :: a3 :: a4 :: a5 :: a6 :: a7 :: a8 :: some (.int x) :: Lr) S h) : F pc (a0 :: a1 :: a2 :: a3 :: a4 :: a5 :: a6 :: a7 :: a8 :: z :: Lr) (.int x :: S) h := kx_istore_g C d hn hc k
theorem kx_ald9 {own : String} {cc : ByteArray} {nL dp : Nat} {F : kx_F} (C : kx_Ru own cc nL dp F) {pc : Nat} {Lr : List (Option Value)} {S : List Value} {h : kx_H} {a0 a1 a2 a3 a4 a5 a6 a7 a8 : Option Value} {x : Nat} (d : decode cc pc = .ok (.aload 9, 2)) (k : F (pc + 2) (a0 :: a1 :: a2 :: a3 :: a4 :: a5 :: a6 :: a7 :: a8 :: some (.ref x) :: Lr) (.ref x :: S) h) : F pc (a0 :: a1 :: a2 :: a3 :: a4 :: a5 :: a6 :: a7 :: a8 :: some (.ref x) :: Lr) S h := kx_aload_g C d rfl k
theorem kx_ast9 {own : String} {cc : ByteArray} {nL dp : Nat} {F : kx_F} (C : kx_Ru own cc nL dp F) {pc : Nat} {Lr : List (Option Value)} {S : List Value} {h : kx_H} {a0 a1 a2 a3 a4 a5 a6 a7 a8 : Option Value} {z : Option Value} {x : Nat} (d : decode cc pc = .ok (.astore 9, 2)) (hn : 9 < nL) (hc : kx_nl (a0 :: a1 :: a2 :: a3 :: a4 :: a5 :: a6 :: a7 :: a8 :: z :: Lr) 9 = true) (k : F (pc + 2) (a0 :: a1 :: a2 :: a3 :: a4 :: a5 :: a6 :: a7 :: a8 :: some (.ref x) :: Lr) S h) : F pc (a0 :: a1 :: a2 :: a3 :: a4 :: a5 :: a6 :: a7 :: a8 :: z :: Lr) (.ref x :: S) h := kx_astore_g C d hn hc k
theorem kx_lld9 {own : String} {cc : ByteArray} {nL dp : Nat} {F : kx_F} (C : kx_Ru own cc nL dp F) {pc : Nat} {Lr : List (Option Value)} {S : List Value} {h : kx_H} {a0 a1 a2 a3 a4 a5 a6 a7 a8 : Option Value} {x : Int64} (d : decode cc pc = .ok (.lload 9, 2)) (k : F (pc + 2) (a0 :: a1 :: a2 :: a3 :: a4 :: a5 :: a6 :: a7 :: a8 :: some (.long x) :: Lr) (.long x :: S) h) : F pc (a0 :: a1 :: a2 :: a3 :: a4 :: a5 :: a6 :: a7 :: a8 :: some (.long x) :: Lr) S h := kx_lload_g C d rfl k
theorem kx_inc9 {own : String} {cc : ByteArray} {nL dp : Nat} {F : kx_F} (C : kx_Ru own cc nL dp F) {pc : Nat} {Lr : List (Option Value)} {S : List Value} {h : kx_H} {a0 a1 a2 a3 a4 a5 a6 a7 a8 : Option Value} {n : Int} {x v : Int32} (d : decode cc pc = .ok (.iinc 9 n, 3)) (hn : 9 < nL) (hc : kx_nl (a0 :: a1 :: a2 :: a3 :: a4 :: a5 :: a6 :: a7 :: a8 :: some (.int x) :: Lr) 9 = true) (hv : x + Int32.ofInt n = v) (k : F (pc + 3) (a0 :: a1 :: a2 :: a3 :: a4 :: a5 :: a6 :: a7 :: a8 :: some (.int v) :: Lr) S h) : F pc (a0 :: a1 :: a2 :: a3 :: a4 :: a5 :: a6 :: a7 :: a8 :: some (.int x) :: Lr) S h := kx_iinc_g C d rfl hv hn hc k
theorem kx_ild10 {own : String} {cc : ByteArray} {nL dp : Nat} {F : kx_F} (C : kx_Ru own cc nL dp F) {pc : Nat} {Lr : List (Option Value)} {S : List Value} {h : kx_H} {a0 a1 a2 a3 a4 a5 a6 a7 a8 a9 : Option Value} {x : Int32} (d : decode cc pc = .ok (.iload 10, 2)) (k : F (pc + 2) (a0 :: a1 :: a2 :: a3 :: a4 :: a5 :: a6 :: a7 :: a8 :: a9 :: some (.int x) :: Lr) (.int x :: S) h) : F pc (a0 :: a1 :: a2 :: a3 :: a4 :: a5 :: a6 :: a7 :: a8 :: a9 :: some (.int x) :: Lr) S h := kx_iload_g C d rfl k
theorem kx_ist10 {own : String} {cc : ByteArray} {nL dp : Nat} {F : kx_F} (C : kx_Ru own cc nL dp F) {pc : Nat} {Lr : List (Option Value)} {S : List Value} {h : kx_H} {a0 a1 a2 a3 a4 a5 a6 a7 a8 a9 : Option Value} {z : Option Value} {x : Int32} (d : decode cc pc = .ok (.istore 10, 2)) (hn : 10 < nL) (hc : kx_nl (a0 :: a1 :: a2 :: a3 :: a4 :: a5 :: a6 :: a7 :: a8 :: a9 :: z :: Lr) 10 = true) (k : F (pc + 2) (a0 :: a1 :: a2 :: a3 :: a4 :: a5 :: a6 :: a7 :: a8 :: a9 :: some (.int x) :: Lr) S h) : F pc (a0 :: a1 :: a2 :: a3 :: a4 :: a5 :: a6 :: a7 :: a8 :: a9 :: z :: Lr) (.int x :: S) h := kx_istore_g C d hn hc k
theorem kx_ald10 {own : String} {cc : ByteArray} {nL dp : Nat} {F : kx_F} (C : kx_Ru own cc nL dp F) {pc : Nat} {Lr : List (Option Value)} {S : List Value} {h : kx_H} {a0 a1 a2 a3 a4 a5 a6 a7 a8 a9 : Option Value} {x : Nat} (d : decode cc pc = .ok (.aload 10, 2)) (k : F (pc + 2) (a0 :: a1 :: a2 :: a3 :: a4 :: a5 :: a6 :: a7 :: a8 :: a9 :: some (.ref x) :: Lr) (.ref x :: S) h) : F pc (a0 :: a1 :: a2 :: a3 :: a4 :: a5 :: a6 :: a7 :: a8 :: a9 :: some (.ref x) :: Lr) S h := kx_aload_g C d rfl k
theorem kx_ast10 {own : String} {cc : ByteArray} {nL dp : Nat} {F : kx_F} (C : kx_Ru own cc nL dp F) {pc : Nat} {Lr : List (Option Value)} {S : List Value} {h : kx_H} {a0 a1 a2 a3 a4 a5 a6 a7 a8 a9 : Option Value} {z : Option Value} {x : Nat} (d : decode cc pc = .ok (.astore 10, 2)) (hn : 10 < nL) (hc : kx_nl (a0 :: a1 :: a2 :: a3 :: a4 :: a5 :: a6 :: a7 :: a8 :: a9 :: z :: Lr) 10 = true) (k : F (pc + 2) (a0 :: a1 :: a2 :: a3 :: a4 :: a5 :: a6 :: a7 :: a8 :: a9 :: some (.ref x) :: Lr) S h) : F pc (a0 :: a1 :: a2 :: a3 :: a4 :: a5 :: a6 :: a7 :: a8 :: a9 :: z :: Lr) (.ref x :: S) h := kx_astore_g C d hn hc k
theorem kx_lld10 {own : String} {cc : ByteArray} {nL dp : Nat} {F : kx_F} (C : kx_Ru own cc nL dp F) {pc : Nat} {Lr : List (Option Value)} {S : List Value} {h : kx_H} {a0 a1 a2 a3 a4 a5 a6 a7 a8 a9 : Option Value} {x : Int64} (d : decode cc pc = .ok (.lload 10, 2)) (k : F (pc + 2) (a0 :: a1 :: a2 :: a3 :: a4 :: a5 :: a6 :: a7 :: a8 :: a9 :: some (.long x) :: Lr) (.long x :: S) h) : F pc (a0 :: a1 :: a2 :: a3 :: a4 :: a5 :: a6 :: a7 :: a8 :: a9 :: some (.long x) :: Lr) S h := kx_lload_g C d rfl k
theorem kx_inc10 {own : String} {cc : ByteArray} {nL dp : Nat} {F : kx_F} (C : kx_Ru own cc nL dp F) {pc : Nat} {Lr : List (Option Value)} {S : List Value} {h : kx_H} {a0 a1 a2 a3 a4 a5 a6 a7 a8 a9 : Option Value} {n : Int} {x v : Int32} (d : decode cc pc = .ok (.iinc 10 n, 3)) (hn : 10 < nL) (hc : kx_nl (a0 :: a1 :: a2 :: a3 :: a4 :: a5 :: a6 :: a7 :: a8 :: a9 :: some (.int x) :: Lr) 10 = true) (hv : x + Int32.ofInt n = v) (k : F (pc + 3) (a0 :: a1 :: a2 :: a3 :: a4 :: a5 :: a6 :: a7 :: a8 :: a9 :: some (.int v) :: Lr) S h) : F pc (a0 :: a1 :: a2 :: a3 :: a4 :: a5 :: a6 :: a7 :: a8 :: a9 :: some (.int x) :: Lr) S h := kx_iinc_g C d rfl hv hn hc k
theorem kx_ild11 {own : String} {cc : ByteArray} {nL dp : Nat} {F : kx_F} (C : kx_Ru own cc nL dp F) {pc : Nat} {Lr : List (Option Value)} {S : List Value} {h : kx_H} {a0 a1 a2 a3 a4 a5 a6 a7 a8 a9 a10 : Option Value} {x : Int32} (d : decode cc pc = .ok (.iload 11, 2)) (k : F (pc + 2) (a0 :: a1 :: a2 :: a3 :: a4 :: a5 :: a6 :: a7 :: a8 :: a9 :: a10 :: some (.int x) :: Lr) (.int x :: S) h) : F pc (a0 :: a1 :: a2 :: a3 :: a4 :: a5 :: a6 :: a7 :: a8 :: a9 :: a10 :: some (.int x) :: Lr) S h := kx_iload_g C d rfl k
theorem kx_ist11 {own : String} {cc : ByteArray} {nL dp : Nat} {F : kx_F} (C : kx_Ru own cc nL dp F) {pc : Nat} {Lr : List (Option Value)} {S : List Value} {h : kx_H} {a0 a1 a2 a3 a4 a5 a6 a7 a8 a9 a10 : Option Value} {z : Option Value} {x : Int32} (d : decode cc pc = .ok (.istore 11, 2)) (hn : 11 < nL) (hc : kx_nl (a0 :: a1 :: a2 :: a3 :: a4 :: a5 :: a6 :: a7 :: a8 :: a9 :: a10 :: z :: Lr) 11 = true) (k : F (pc + 2) (a0 :: a1 :: a2 :: a3 :: a4 :: a5 :: a6 :: a7 :: a8 :: a9 :: a10 :: some (.int x) :: Lr) S h) : F pc (a0 :: a1 :: a2 :: a3 :: a4 :: a5 :: a6 :: a7 :: a8 :: a9 :: a10 :: z :: Lr) (.int x :: S) h := kx_istore_g C d hn hc k
theorem kx_ald11 {own : String} {cc : ByteArray} {nL dp : Nat} {F : kx_F} (C : kx_Ru own cc nL dp F) {pc : Nat} {Lr : List (Option Value)} {S : List Value} {h : kx_H} {a0 a1 a2 a3 a4 a5 a6 a7 a8 a9 a10 : Option Value} {x : Nat} (d : decode cc pc = .ok (.aload 11, 2)) (k : F (pc + 2) (a0 :: a1 :: a2 :: a3 :: a4 :: a5 :: a6 :: a7 :: a8 :: a9 :: a10 :: some (.ref x) :: Lr) (.ref x :: S) h) : F pc (a0 :: a1 :: a2 :: a3 :: a4 :: a5 :: a6 :: a7 :: a8 :: a9 :: a10 :: some (.ref x) :: Lr) S h := kx_aload_g C d rfl k
theorem kx_ast11 {own : String} {cc : ByteArray} {nL dp : Nat} {F : kx_F} (C : kx_Ru own cc nL dp F) {pc : Nat} {Lr : List (Option Value)} {S : List Value} {h : kx_H} {a0 a1 a2 a3 a4 a5 a6 a7 a8 a9 a10 : Option Value} {z : Option Value} {x : Nat} (d : decode cc pc = .ok (.astore 11, 2)) (hn : 11 < nL) (hc : kx_nl (a0 :: a1 :: a2 :: a3 :: a4 :: a5 :: a6 :: a7 :: a8 :: a9 :: a10 :: z :: Lr) 11 = true) (k : F (pc + 2) (a0 :: a1 :: a2 :: a3 :: a4 :: a5 :: a6 :: a7 :: a8 :: a9 :: a10 :: some (.ref x) :: Lr) S h) : F pc (a0 :: a1 :: a2 :: a3 :: a4 :: a5 :: a6 :: a7 :: a8 :: a9 :: a10 :: z :: Lr) (.ref x :: S) h := kx_astore_g C d hn hc k
theorem kx_lld11 {own : String} {cc : ByteArray} {nL dp : Nat} {F : kx_F} (C : kx_Ru own cc nL dp F) {pc : Nat} {Lr : List (Option Value)} {S : List Value} {h : kx_H} {a0 a1 a2 a3 a4 a5 a6 a7 a8 a9 a10 : Option Value} {x : Int64} (d : decode cc pc = .ok (.lload 11, 2)) (k : F (pc + 2) (a0 :: a1 :: a2 :: a3 :: a4 :: a5 :: a6 :: a7 :: a8 :: a9 :: a10 :: some (.long x) :: Lr) (.long x :: S) h) : F pc (a0 :: a1 :: a2 :: a3 :: a4 :: a5 :: a6 :: a7 :: a8 :: a9 :: a10 :: some (.long x) :: Lr) S h := kx_lload_g C d rfl k
theorem kx_inc11 {own : String} {cc : ByteArray} {nL dp : Nat} {F : kx_F} (C : kx_Ru own cc nL dp F) {pc : Nat} {Lr : List (Option Value)} {S : List Value} {h : kx_H} {a0 a1 a2 a3 a4 a5 a6 a7 a8 a9 a10 : Option Value} {n : Int} {x v : Int32} (d : decode cc pc = .ok (.iinc 11 n, 3)) (hn : 11 < nL) (hc : kx_nl (a0 :: a1 :: a2 :: a3 :: a4 :: a5 :: a6 :: a7 :: a8 :: a9 :: a10 :: some (.int x) :: Lr) 11 = true) (hv : x + Int32.ofInt n = v) (k : F (pc + 3) (a0 :: a1 :: a2 :: a3 :: a4 :: a5 :: a6 :: a7 :: a8 :: a9 :: a10 :: some (.int v) :: Lr) S h) : F pc (a0 :: a1 :: a2 :: a3 :: a4 :: a5 :: a6 :: a7 :: a8 :: a9 :: a10 :: some (.int x) :: Lr) S h := kx_iinc_g C d rfl hv hn hc k
theorem kx_ild12 {own : String} {cc : ByteArray} {nL dp : Nat} {F : kx_F} (C : kx_Ru own cc nL dp F) {pc : Nat} {Lr : List (Option Value)} {S : List Value} {h : kx_H} {a0 a1 a2 a3 a4 a5 a6 a7 a8 a9 a10 a11 : Option Value} {x : Int32} (d : decode cc pc = .ok (.iload 12, 2)) (k : F (pc + 2) (a0 :: a1 :: a2 :: a3 :: a4 :: a5 :: a6 :: a7 :: a8 :: a9 :: a10 :: a11 :: some (.int x) :: Lr) (.int x :: S) h) : F pc (a0 :: a1 :: a2 :: a3 :: a4 :: a5 :: a6 :: a7 :: a8 :: a9 :: a10 :: a11 :: some (.int x) :: Lr) S h := kx_iload_g C d rfl k
theorem kx_ist12 {own : String} {cc : ByteArray} {nL dp : Nat} {F : kx_F} (C : kx_Ru own cc nL dp F) {pc : Nat} {Lr : List (Option Value)} {S : List Value} {h : kx_H} {a0 a1 a2 a3 a4 a5 a6 a7 a8 a9 a10 a11 : Option Value} {z : Option Value} {x : Int32} (d : decode cc pc = .ok (.istore 12, 2)) (hn : 12 < nL) (hc : kx_nl (a0 :: a1 :: a2 :: a3 :: a4 :: a5 :: a6 :: a7 :: a8 :: a9 :: a10 :: a11 :: z :: Lr) 12 = true) (k : F (pc + 2) (a0 :: a1 :: a2 :: a3 :: a4 :: a5 :: a6 :: a7 :: a8 :: a9 :: a10 :: a11 :: some (.int x) :: Lr) S h) : F pc (a0 :: a1 :: a2 :: a3 :: a4 :: a5 :: a6 :: a7 :: a8 :: a9 :: a10 :: a11 :: z :: Lr) (.int x :: S) h := kx_istore_g C d hn hc k
theorem kx_ald12 {own : String} {cc : ByteArray} {nL dp : Nat} {F : kx_F} (C : kx_Ru own cc nL dp F) {pc : Nat} {Lr : List (Option Value)} {S : List Value} {h : kx_H} {a0 a1 a2 a3 a4 a5 a6 a7 a8 a9 a10 a11 : Option Value} {x : Nat} (d : decode cc pc = .ok (.aload 12, 2)) (k : F (pc + 2) (a0 :: a1 :: a2 :: a3 :: a4 :: a5 :: a6 :: a7 :: a8 :: a9 :: a10 :: a11 :: some (.ref x) :: Lr) (.ref x :: S) h) : F pc (a0 :: a1 :: a2 :: a3 :: a4 :: a5 :: a6 :: a7 :: a8 :: a9 :: a10 :: a11 :: some (.ref x) :: Lr) S h := kx_aload_g C d rfl k
theorem kx_ast12 {own : String} {cc : ByteArray} {nL dp : Nat} {F : kx_F} (C : kx_Ru own cc nL dp F) {pc : Nat} {Lr : List (Option Value)} {S : List Value} {h : kx_H} {a0 a1 a2 a3 a4 a5 a6 a7 a8 a9 a10 a11 : Option Value} {z : Option Value} {x : Nat} (d : decode cc pc = .ok (.astore 12, 2)) (hn : 12 < nL) (hc : kx_nl (a0 :: a1 :: a2 :: a3 :: a4 :: a5 :: a6 :: a7 :: a8 :: a9 :: a10 :: a11 :: z :: Lr) 12 = true) (k : F (pc + 2) (a0 :: a1 :: a2 :: a3 :: a4 :: a5 :: a6 :: a7 :: a8 :: a9 :: a10 :: a11 :: some (.ref x) :: Lr) S h) : F pc (a0 :: a1 :: a2 :: a3 :: a4 :: a5 :: a6 :: a7 :: a8 :: a9 :: a10 :: a11 :: z :: Lr) (.ref x :: S) h := kx_astore_g C d hn hc k
theorem kx_lld12 {own : String} {cc : ByteArray} {nL dp : Nat} {F : kx_F} (C : kx_Ru own cc nL dp F) {pc : Nat} {Lr : List (Option Value)} {S : List Value} {h : kx_H} {a0 a1 a2 a3 a4 a5 a6 a7 a8 a9 a10 a11 : Option Value} {x : Int64} (d : decode cc pc = .ok (.lload 12, 2)) (k : F (pc + 2) (a0 :: a1 :: a2 :: a3 :: a4 :: a5 :: a6 :: a7 :: a8 :: a9 :: a10 :: a11 :: some (.long x) :: Lr) (.long x :: S) h) : F pc (a0 :: a1 :: a2 :: a3 :: a4 :: a5 :: a6 :: a7 :: a8 :: a9 :: a10 :: a11 :: some (.long x) :: Lr) S h := kx_lload_g C d rfl k
theorem kx_inc12 {own : String} {cc : ByteArray} {nL dp : Nat} {F : kx_F} (C : kx_Ru own cc nL dp F) {pc : Nat} {Lr : List (Option Value)} {S : List Value} {h : kx_H} {a0 a1 a2 a3 a4 a5 a6 a7 a8 a9 a10 a11 : Option Value} {n : Int} {x v : Int32} (d : decode cc pc = .ok (.iinc 12 n, 3)) (hn : 12 < nL) (hc : kx_nl (a0 :: a1 :: a2 :: a3 :: a4 :: a5 :: a6 :: a7 :: a8 :: a9 :: a10 :: a11 :: some (.int x) :: Lr) 12 = true) (hv : x + Int32.ofInt n = v) (k : F (pc + 3) (a0 :: a1 :: a2 :: a3 :: a4 :: a5 :: a6 :: a7 :: a8 :: a9 :: a10 :: a11 :: some (.int v) :: Lr) S h) : F pc (a0 :: a1 :: a2 :: a3 :: a4 :: a5 :: a6 :: a7 :: a8 :: a9 :: a10 :: a11 :: some (.int x) :: Lr) S h := kx_iinc_g C d rfl hv hn hc k
theorem kx_ild13 {own : String} {cc : ByteArray} {nL dp : Nat} {F : kx_F} (C : kx_Ru own cc nL dp F) {pc : Nat} {Lr : List (Option Value)} {S : List Value} {h : kx_H} {a0 a1 a2 a3 a4 a5 a6 a7 a8 a9 a10 a11 a12 : Option Value} {x : Int32} (d : decode cc pc = .ok (.iload 13, 2)) (k : F (pc + 2) (a0 :: a1 :: a2 :: a3 :: a4 :: a5 :: a6 :: a7 :: a8 :: a9 :: a10 :: a11 :: a12 :: some (.int x) :: Lr) (.int x :: S) h) : F pc (a0 :: a1 :: a2 :: a3 :: a4 :: a5 :: a6 :: a7 :: a8 :: a9 :: a10 :: a11 :: a12 :: some (.int x) :: Lr) S h := kx_iload_g C d rfl k
theorem kx_ist13 {own : String} {cc : ByteArray} {nL dp : Nat} {F : kx_F} (C : kx_Ru own cc nL dp F) {pc : Nat} {Lr : List (Option Value)} {S : List Value} {h : kx_H} {a0 a1 a2 a3 a4 a5 a6 a7 a8 a9 a10 a11 a12 : Option Value} {z : Option Value} {x : Int32} (d : decode cc pc = .ok (.istore 13, 2)) (hn : 13 < nL) (hc : kx_nl (a0 :: a1 :: a2 :: a3 :: a4 :: a5 :: a6 :: a7 :: a8 :: a9 :: a10 :: a11 :: a12 :: z :: Lr) 13 = true) (k : F (pc + 2) (a0 :: a1 :: a2 :: a3 :: a4 :: a5 :: a6 :: a7 :: a8 :: a9 :: a10 :: a11 :: a12 :: some (.int x) :: Lr) S h) : F pc (a0 :: a1 :: a2 :: a3 :: a4 :: a5 :: a6 :: a7 :: a8 :: a9 :: a10 :: a11 :: a12 :: z :: Lr) (.int x :: S) h := kx_istore_g C d hn hc k
theorem kx_ald13 {own : String} {cc : ByteArray} {nL dp : Nat} {F : kx_F} (C : kx_Ru own cc nL dp F) {pc : Nat} {Lr : List (Option Value)} {S : List Value} {h : kx_H} {a0 a1 a2 a3 a4 a5 a6 a7 a8 a9 a10 a11 a12 : Option Value} {x : Nat} (d : decode cc pc = .ok (.aload 13, 2)) (k : F (pc + 2) (a0 :: a1 :: a2 :: a3 :: a4 :: a5 :: a6 :: a7 :: a8 :: a9 :: a10 :: a11 :: a12 :: some (.ref x) :: Lr) (.ref x :: S) h) : F pc (a0 :: a1 :: a2 :: a3 :: a4 :: a5 :: a6 :: a7 :: a8 :: a9 :: a10 :: a11 :: a12 :: some (.ref x) :: Lr) S h := kx_aload_g C d rfl k
theorem kx_ast13 {own : String} {cc : ByteArray} {nL dp : Nat} {F : kx_F} (C : kx_Ru own cc nL dp F) {pc : Nat} {Lr : List (Option Value)} {S : List Value} {h : kx_H} {a0 a1 a2 a3 a4 a5 a6 a7 a8 a9 a10 a11 a12 : Option Value} {z : Option Value} {x : Nat} (d : decode cc pc = .ok (.astore 13, 2)) (hn : 13 < nL) (hc : kx_nl (a0 :: a1 :: a2 :: a3 :: a4 :: a5 :: a6 :: a7 :: a8 :: a9 :: a10 :: a11 :: a12 :: z :: Lr) 13 = true) (k : F (pc + 2) (a0 :: a1 :: a2 :: a3 :: a4 :: a5 :: a6 :: a7 :: a8 :: a9 :: a10 :: a11 :: a12 :: some (.ref x) :: Lr) S h) : F pc (a0 :: a1 :: a2 :: a3 :: a4 :: a5 :: a6 :: a7 :: a8 :: a9 :: a10 :: a11 :: a12 :: z :: Lr) (.ref x :: S) h := kx_astore_g C d hn hc k
theorem kx_lld13 {own : String} {cc : ByteArray} {nL dp : Nat} {F : kx_F} (C : kx_Ru own cc nL dp F) {pc : Nat} {Lr : List (Option Value)} {S : List Value} {h : kx_H} {a0 a1 a2 a3 a4 a5 a6 a7 a8 a9 a10 a11 a12 : Option Value} {x : Int64} (d : decode cc pc = .ok (.lload 13, 2)) (k : F (pc + 2) (a0 :: a1 :: a2 :: a3 :: a4 :: a5 :: a6 :: a7 :: a8 :: a9 :: a10 :: a11 :: a12 :: some (.long x) :: Lr) (.long x :: S) h) : F pc (a0 :: a1 :: a2 :: a3 :: a4 :: a5 :: a6 :: a7 :: a8 :: a9 :: a10 :: a11 :: a12 :: some (.long x) :: Lr) S h := kx_lload_g C d rfl k
theorem kx_inc13 {own : String} {cc : ByteArray} {nL dp : Nat} {F : kx_F} (C : kx_Ru own cc nL dp F) {pc : Nat} {Lr : List (Option Value)} {S : List Value} {h : kx_H} {a0 a1 a2 a3 a4 a5 a6 a7 a8 a9 a10 a11 a12 : Option Value} {n : Int} {x v : Int32} (d : decode cc pc = .ok (.iinc 13 n, 3)) (hn : 13 < nL) (hc : kx_nl (a0 :: a1 :: a2 :: a3 :: a4 :: a5 :: a6 :: a7 :: a8 :: a9 :: a10 :: a11 :: a12 :: some (.int x) :: Lr) 13 = true) (hv : x + Int32.ofInt n = v) (k : F (pc + 3) (a0 :: a1 :: a2 :: a3 :: a4 :: a5 :: a6 :: a7 :: a8 :: a9 :: a10 :: a11 :: a12 :: some (.int v) :: Lr) S h) : F pc (a0 :: a1 :: a2 :: a3 :: a4 :: a5 :: a6 :: a7 :: a8 :: a9 :: a10 :: a11 :: a12 :: some (.int x) :: Lr) S h := kx_iinc_g C d rfl hv hn hc k
theorem kx_ild14 {own : String} {cc : ByteArray} {nL dp : Nat} {F : kx_F} (C : kx_Ru own cc nL dp F) {pc : Nat} {Lr : List (Option Value)} {S : List Value} {h : kx_H} {a0 a1 a2 a3 a4 a5 a6 a7 a8 a9 a10 a11 a12 a13 : Option Value} {x : Int32} (d : decode cc pc = .ok (.iload 14, 2)) (k : F (pc + 2) (a0 :: a1 :: a2 :: a3 :: a4 :: a5 :: a6 :: a7 :: a8 :: a9 :: a10 :: a11 :: a12 :: a13 :: some (.int x) :: Lr) (.int x :: S) h) : F pc (a0 :: a1 :: a2 :: a3 :: a4 :: a5 :: a6 :: a7 :: a8 :: a9 :: a10 :: a11 :: a12 :: a13 :: some (.int x) :: Lr) S h := kx_iload_g C d rfl k
theorem kx_ist14 {own : String} {cc : ByteArray} {nL dp : Nat} {F : kx_F} (C : kx_Ru own cc nL dp F) {pc : Nat} {Lr : List (Option Value)} {S : List Value} {h : kx_H} {a0 a1 a2 a3 a4 a5 a6 a7 a8 a9 a10 a11 a12 a13 : Option Value} {z : Option Value} {x : Int32} (d : decode cc pc = .ok (.istore 14, 2)) (hn : 14 < nL) (hc : kx_nl (a0 :: a1 :: a2 :: a3 :: a4 :: a5 :: a6 :: a7 :: a8 :: a9 :: a10 :: a11 :: a12 :: a13 :: z :: Lr) 14 = true) (k : F (pc + 2) (a0 :: a1 :: a2 :: a3 :: a4 :: a5 :: a6 :: a7 :: a8 :: a9 :: a10 :: a11 :: a12 :: a13 :: some (.int x) :: Lr) S h) : F pc (a0 :: a1 :: a2 :: a3 :: a4 :: a5 :: a6 :: a7 :: a8 :: a9 :: a10 :: a11 :: a12 :: a13 :: z :: Lr) (.int x :: S) h := kx_istore_g C d hn hc k
theorem kx_ald14 {own : String} {cc : ByteArray} {nL dp : Nat} {F : kx_F} (C : kx_Ru own cc nL dp F) {pc : Nat} {Lr : List (Option Value)} {S : List Value} {h : kx_H} {a0 a1 a2 a3 a4 a5 a6 a7 a8 a9 a10 a11 a12 a13 : Option Value} {x : Nat} (d : decode cc pc = .ok (.aload 14, 2)) (k : F (pc + 2) (a0 :: a1 :: a2 :: a3 :: a4 :: a5 :: a6 :: a7 :: a8 :: a9 :: a10 :: a11 :: a12 :: a13 :: some (.ref x) :: Lr) (.ref x :: S) h) : F pc (a0 :: a1 :: a2 :: a3 :: a4 :: a5 :: a6 :: a7 :: a8 :: a9 :: a10 :: a11 :: a12 :: a13 :: some (.ref x) :: Lr) S h := kx_aload_g C d rfl k
theorem kx_ast14 {own : String} {cc : ByteArray} {nL dp : Nat} {F : kx_F} (C : kx_Ru own cc nL dp F) {pc : Nat} {Lr : List (Option Value)} {S : List Value} {h : kx_H} {a0 a1 a2 a3 a4 a5 a6 a7 a8 a9 a10 a11 a12 a13 : Option Value} {z : Option Value} {x : Nat} (d : decode cc pc = .ok (.astore 14, 2)) (hn : 14 < nL) (hc : kx_nl (a0 :: a1 :: a2 :: a3 :: a4 :: a5 :: a6 :: a7 :: a8 :: a9 :: a10 :: a11 :: a12 :: a13 :: z :: Lr) 14 = true) (k : F (pc + 2) (a0 :: a1 :: a2 :: a3 :: a4 :: a5 :: a6 :: a7 :: a8 :: a9 :: a10 :: a11 :: a12 :: a13 :: some (.ref x) :: Lr) S h) : F pc (a0 :: a1 :: a2 :: a3 :: a4 :: a5 :: a6 :: a7 :: a8 :: a9 :: a10 :: a11 :: a12 :: a13 :: z :: Lr) (.ref x :: S) h := kx_astore_g C d hn hc k
theorem kx_lld14 {own : String} {cc : ByteArray} {nL dp : Nat} {F : kx_F} (C : kx_Ru own cc nL dp F) {pc : Nat} {Lr : List (Option Value)} {S : List Value} {h : kx_H} {a0 a1 a2 a3 a4 a5 a6 a7 a8 a9 a10 a11 a12 a13 : Option Value} {x : Int64} (d : decode cc pc = .ok (.lload 14, 2)) (k : F (pc + 2) (a0 :: a1 :: a2 :: a3 :: a4 :: a5 :: a6 :: a7 :: a8 :: a9 :: a10 :: a11 :: a12 :: a13 :: some (.long x) :: Lr) (.long x :: S) h) : F pc (a0 :: a1 :: a2 :: a3 :: a4 :: a5 :: a6 :: a7 :: a8 :: a9 :: a10 :: a11 :: a12 :: a13 :: some (.long x) :: Lr) S h := kx_lload_g C d rfl k
theorem kx_inc14 {own : String} {cc : ByteArray} {nL dp : Nat} {F : kx_F} (C : kx_Ru own cc nL dp F) {pc : Nat} {Lr : List (Option Value)} {S : List Value} {h : kx_H} {a0 a1 a2 a3 a4 a5 a6 a7 a8 a9 a10 a11 a12 a13 : Option Value} {n : Int} {x v : Int32} (d : decode cc pc = .ok (.iinc 14 n, 3)) (hn : 14 < nL) (hc : kx_nl (a0 :: a1 :: a2 :: a3 :: a4 :: a5 :: a6 :: a7 :: a8 :: a9 :: a10 :: a11 :: a12 :: a13 :: some (.int x) :: Lr) 14 = true) (hv : x + Int32.ofInt n = v) (k : F (pc + 3) (a0 :: a1 :: a2 :: a3 :: a4 :: a5 :: a6 :: a7 :: a8 :: a9 :: a10 :: a11 :: a12 :: a13 :: some (.int v) :: Lr) S h) : F pc (a0 :: a1 :: a2 :: a3 :: a4 :: a5 :: a6 :: a7 :: a8 :: a9 :: a10 :: a11 :: a12 :: a13 :: some (.int x) :: Lr) S h := kx_iinc_g C d rfl hv hn hc k
theorem kx_iaddN {own : String} {cc : ByteArray} {nL dp : Nat} {F : kx_F} (C : kx_Ru own cc nL dp F) {pc : Nat} {L : List (Option Value)} {S : List Value} {h : kx_H} {a b : Nat} (d : decode cc pc = .ok (.iadd, 1)) (k : F (pc + 1) L (.int (nI (a + b)) :: S) h) : F pc L (.int (nI b) :: .int (nI a) :: S) h := kx_iadd C d (by rw [nI_add]; exact k)
theorem kx_imulN {own : String} {cc : ByteArray} {nL dp : Nat} {F : kx_F} (C : kx_Ru own cc nL dp F) {pc : Nat} {L : List (Option Value)} {S : List Value} {h : kx_H} {a b : Nat} (d : decode cc pc = .ok (.imul, 1)) (k : F (pc + 1) L (.int (nI (a * b)) :: S) h) : F pc L (.int (nI b) :: .int (nI a) :: S) h := kx_imul C d (by rw [pk_mul]; exact k)
theorem kx_isubN {own : String} {cc : ByteArray} {nL dp : Nat} {F : kx_F} (C : kx_Ru own cc nL dp F) {pc : Nat} {L : List (Option Value)} {S : List Value} {h : kx_H} {a b : Nat} (hab : b ≤ a) (d : decode cc pc = .ok (.isub, 1)) (k : F (pc + 1) L (.int (nI (a - b)) :: S) h) : F pc L (.int (nI b) :: .int (nI a) :: S) h := kx_isub C d (by rw [pk_sub hab]; exact k)
theorem kx_idivN {own : String} {cc : ByteArray} {nL dp : Nat} {F : kx_F} (C : kx_Ru own cc nL dp F) {pc : Nat} {L : List (Option Value)} {S : List Value} {h : kx_H} {a b : Nat} (ha : a < 2 ^ 31) (hb : 0 < b) (hb2 : b < 2 ^ 31) (d : decode cc pc = .ok (.idiv, 1)) (k : F (pc + 1) L (.int (nI (a / b)) :: S) h) : F pc L (.int (nI b) :: .int (nI a) :: S) h := kx_idiv C d (nI_ne0 hb hb2) (by rw [pk_div ha hb hb2]; exact k)
theorem kx_iremN {own : String} {cc : ByteArray} {nL dp : Nat} {F : kx_F} (C : kx_Ru own cc nL dp F) {pc : Nat} {L : List (Option Value)} {S : List Value} {h : kx_H} {a b : Nat} (ha : a < 2 ^ 31) (hb : 0 < b) (hb2 : b < 2 ^ 31) (d : decode cc pc = .ok (.irem, 1)) (k : F (pc + 1) L (.int (nI (a % b)) :: S) h) : F pc L (.int (nI b) :: .int (nI a) :: S) h := kx_irem C d (nI_ne0 hb hb2) (by rw [pk_rem ha hb hb2]; exact k)
theorem kx_icmp_eqN {own : String} {cc : ByteArray} {nL dp : Nat} {F : kx_F} (C : kx_Ru own cc nL dp F) {pc : Nat} {L : List (Option Value)} {S : List Value} {h : kx_H} {a b : Nat} {off : Int} (tgt : Nat) (ha : a < 2 ^ 31) (hb : b < 2 ^ 31) (d : decode cc pc = .ok (.if_icmp .eq off, 3)) (ht : (pc : Int) + off = (tgt : Int)) (kt : a = b → F tgt L S h) (kf : ¬ a = b → F (pc + 3) L S h) : F pc L (.int (nI b) :: .int (nI a) :: S) h := kx_icmp_eq C tgt d ht (fun z => kt ((nI_eq ha hb).mp z)) (fun z => kf (fun q => z ((nI_eq ha hb).mpr q)))
theorem kx_icmp_neN {own : String} {cc : ByteArray} {nL dp : Nat} {F : kx_F} (C : kx_Ru own cc nL dp F) {pc : Nat} {L : List (Option Value)} {S : List Value} {h : kx_H} {a b : Nat} {off : Int} (tgt : Nat) (ha : a < 2 ^ 31) (hb : b < 2 ^ 31) (d : decode cc pc = .ok (.if_icmp .ne off, 3)) (ht : (pc : Int) + off = (tgt : Int)) (kt : ¬ a = b → F tgt L S h) (kf : a = b → F (pc + 3) L S h) : F pc L (.int (nI b) :: .int (nI a) :: S) h := kx_icmp_ne C tgt d ht (fun z => kt (fun q => z ((nI_eq ha hb).mpr q))) (fun z => kf ((nI_eq ha hb).mp z))
theorem kx_icmp_ltN {own : String} {cc : ByteArray} {nL dp : Nat} {F : kx_F} (C : kx_Ru own cc nL dp F) {pc : Nat} {L : List (Option Value)} {S : List Value} {h : kx_H} {a b : Nat} {off : Int} (tgt : Nat) (ha : a < 2 ^ 31) (hb : b < 2 ^ 31) (d : decode cc pc = .ok (.if_icmp .lt off, 3)) (ht : (pc : Int) + off = (tgt : Int)) (kt : a < b → F tgt L S h) (kf : b ≤ a → F (pc + 3) L S h) : F pc L (.int (nI b) :: .int (nI a) :: S) h := kx_icmp_lt C tgt d ht (fun z => kt ((nI_ltI ha hb).mp z)) (fun z => kf (by have q : ¬ (a < b) := fun q => z ((nI_ltI ha hb).mpr q); omega))
theorem kx_icmp_geN {own : String} {cc : ByteArray} {nL dp : Nat} {F : kx_F} (C : kx_Ru own cc nL dp F) {pc : Nat} {L : List (Option Value)} {S : List Value} {h : kx_H} {a b : Nat} {off : Int} (tgt : Nat) (ha : a < 2 ^ 31) (hb : b < 2 ^ 31) (d : decode cc pc = .ok (.if_icmp .ge off, 3)) (ht : (pc : Int) + off = (tgt : Int)) (kt : b ≤ a → F tgt L S h) (kf : a < b → F (pc + 3) L S h) : F pc L (.int (nI b) :: .int (nI a) :: S) h := kx_icmp_ge C tgt d ht (fun z => kt ((nI_leI hb ha).mp z)) (fun z => kf (by have q : ¬ (b ≤ a) := fun q => z ((nI_leI hb ha).mpr q); omega))
theorem kx_icmp_gtN {own : String} {cc : ByteArray} {nL dp : Nat} {F : kx_F} (C : kx_Ru own cc nL dp F) {pc : Nat} {L : List (Option Value)} {S : List Value} {h : kx_H} {a b : Nat} {off : Int} (tgt : Nat) (ha : a < 2 ^ 31) (hb : b < 2 ^ 31) (d : decode cc pc = .ok (.if_icmp .gt off, 3)) (ht : (pc : Int) + off = (tgt : Int)) (kt : b < a → F tgt L S h) (kf : a ≤ b → F (pc + 3) L S h) : F pc L (.int (nI b) :: .int (nI a) :: S) h := kx_icmp_gt C tgt d ht (fun z => kt ((nI_ltI hb ha).mp z)) (fun z => kf (by have q : ¬ (b < a) := fun q => z ((nI_ltI hb ha).mpr q); omega))
theorem kx_icmp_leN {own : String} {cc : ByteArray} {nL dp : Nat} {F : kx_F} (C : kx_Ru own cc nL dp F) {pc : Nat} {L : List (Option Value)} {S : List Value} {h : kx_H} {a b : Nat} {off : Int} (tgt : Nat) (ha : a < 2 ^ 31) (hb : b < 2 ^ 31) (d : decode cc pc = .ok (.if_icmp .le off, 3)) (ht : (pc : Int) + off = (tgt : Int)) (kt : a ≤ b → F tgt L S h) (kf : b < a → F (pc + 3) L S h) : F pc L (.int (nI b) :: .int (nI a) :: S) h := kx_icmp_le C tgt d ht (fun z => kt ((nI_leI ha hb).mp z)) (fun z => kf (by have q : ¬ (a ≤ b) := fun q => z ((nI_leI ha hb).mpr q); omega))
end
section
theorem kx_aald1 {own : String} {cc : ByteArray} {nL dp : Nat} {F : kx_F} (C : kx_Ru own cc nL dp F) {pc : Nat} {L : List (Option Value)} {S : List Value} {h : kx_H} {i j b n : Nat} (hs : kx_ra i b 1 n) (hj : j < n) (d : decode cc pc = .ok (.aaload, 1)) (kk : F (pc + 1) L (.ref (b + j) :: S) h) : F pc L (.int (nI j) :: .ref i :: S) h := kx_aald C hs hj d (by rw [Nat.one_mul]; exact kk)
set_option maxRecDepth 20000 in
theorem ly_X0 : ∀ w ∈ u_ws RX0 TX0 9, w ∈ kx_tb := by decide +kernel
set_option maxRecDepth 20000 in
theorem ly_X1 : ∀ w ∈ u_ws RX1 TX1 4, w ∈ kx_tb := by decide +kernel
set_option maxRecDepth 20000 in
theorem ly_X2 : ∀ w ∈ u_ws RX2 TX2 14, w ∈ kx_tb := by decide +kernel
set_option maxRecDepth 20000 in
theorem ly_X3 : ∀ w ∈ u_ws RX3 TX3 9, w ∈ kx_tb := by decide +kernel
set_option maxRecDepth 20000 in
theorem ly_X4 : ∀ w ∈ u_ws RX4 TX4 4, w ∈ kx_tb := by decide +kernel
set_option maxRecDepth 20000 in
theorem ly_X5 : ∀ w ∈ u_ws RX5 TX5 3, w ∈ kx_tb := by decide +kernel
set_option maxRecDepth 20000 in
theorem ly_X6 : ∀ w ∈ u_ws RX6 TX6 11, w ∈ kx_tb := by decide +kernel
set_option maxRecDepth 20000 in
theorem ly_X7 : ∀ w ∈ u_ws RX7 TX7 2, w ∈ kx_tb := by decide +kernel
set_option maxRecDepth 20000 in
theorem ly_X8 : ∀ w ∈ u_ws RX8 TX8 12, w ∈ kx_tb := by decide +kernel
set_option maxRecDepth 20000 in
theorem ly_X9 : ∀ w ∈ u_ws RX9 TX9 16, w ∈ kx_tb := by decide +kernel
theorem fl_X6_27 : kx_FL RX6 27 2 0 := ⟨rfl, by decide, kx_t1 30 (by decide +kernel) rfl, ly_X2⟩
theorem fl_X0_33 : kx_FL RX0 33 2 0 := ⟨rfl, by decide, kx_t1 31 (by decide +kernel) rfl, ly_X2⟩
theorem fl_X4_18 : kx_FL RX4 18 2 0 := ⟨rfl, by decide, kx_t1 32 (by decide +kernel) rfl, ly_X2⟩
theorem fl_X2_36 : kx_FL RX2 36 2 0 := ⟨rfl, by decide, kx_t1 33 (by decide +kernel) rfl, ly_X2⟩
theorem fl_X8_95 : kx_FL RX8 95 2 0 := ⟨rfl, by decide, kx_t1 34 (by decide +kernel) rfl, ly_X2⟩
theorem fl_X0_40 : kx_FL RX0 40 2 1 := ⟨rfl, by decide, kx_t1 35 (by decide +kernel) rfl, ly_X2⟩
theorem fl_X3_41 : kx_FL RX3 41 2 1 := ⟨rfl, by decide, kx_t1 36 (by decide +kernel) rfl, ly_X2⟩
theorem fl_X2_47 : kx_FL RX2 47 2 1 := ⟨rfl, by decide, kx_t1 37 (by decide +kernel) rfl, ly_X2⟩
theorem fl_X8_113 : kx_FL RX8 113 2 1 := ⟨rfl, by decide, kx_t1 38 (by decide +kernel) rfl, ly_X2⟩
theorem fl_X2_50 : kx_FL RX2 50 2 2 := ⟨rfl, by decide, kx_t1 39 (by decide +kernel) rfl, ly_X2⟩
theorem fl_X8_119 : kx_FL RX8 119 2 2 := ⟨rfl, by decide, kx_t1 40 (by decide +kernel) rfl, ly_X2⟩
theorem fl_X6_37 : kx_FL RX6 37 2 3 := ⟨rfl, by decide, kx_t1 41 (by decide +kernel) rfl, ly_X2⟩
theorem fl_X0_59 : kx_FL RX0 59 2 3 := ⟨rfl, by decide, kx_t1 42 (by decide +kernel) rfl, ly_X2⟩
theorem fl_X2_80 : kx_FL RX2 80 2 3 := ⟨rfl, by decide, kx_t1 43 (by decide +kernel) rfl, ly_X2⟩
theorem fl_X8_148 : kx_FL RX8 148 2 3 := ⟨rfl, by decide, kx_t1 44 (by decide +kernel) rfl, ly_X2⟩
theorem fl_X2_9 : kx_FL RX2 9 2 4 := ⟨rfl, by decide, kx_t1 45 (by decide +kernel) rfl, ly_X2⟩
theorem fl_X6_41 : kx_FL RX6 41 2 4 := ⟨rfl, by decide, kx_t1 46 (by decide +kernel) rfl, ly_X2⟩
theorem fl_X8_122 : kx_FL RX8 122 2 4 := ⟨rfl, by decide, kx_t1 47 (by decide +kernel) rfl, ly_X2⟩
theorem fl_X2_15 : kx_FL RX2 15 2 5 := ⟨rfl, by decide, kx_t1 48 (by decide +kernel) rfl, ly_X2⟩
theorem fl_X1_15 : kx_FL RX1 15 2 5 := ⟨rfl, by decide, kx_t1 49 (by decide +kernel) rfl, ly_X2⟩
theorem fl_X3_33 : kx_FL RX3 33 2 5 := ⟨rfl, by decide, kx_t1 50 (by decide +kernel) rfl, ly_X2⟩
theorem fl_X6_68 : kx_FL RX6 68 2 5 := ⟨rfl, by decide, kx_t1 51 (by decide +kernel) rfl, ly_X2⟩
theorem fl_X4_42 : kx_FL RX4 42 2 5 := ⟨rfl, by decide, kx_t1 52 (by decide +kernel) rfl, ly_X2⟩
theorem fl_X0_70 : kx_FL RX0 70 2 5 := ⟨rfl, by decide, kx_t1 53 (by decide +kernel) rfl, ly_X2⟩
theorem fl_X8_129 : kx_FL RX8 129 2 5 := ⟨rfl, by decide, kx_t1 54 (by decide +kernel) rfl, ly_X2⟩
theorem fl_X2_21 : kx_FL RX2 21 2 6 := ⟨rfl, by decide, kx_t1 55 (by decide +kernel) rfl, ly_X2⟩
theorem fl_X1_27 : kx_FL RX1 27 2 6 := ⟨rfl, by decide, kx_t1 56 (by decide +kernel) rfl, ly_X2⟩
theorem fl_X3_55 : kx_FL RX3 55 2 6 := ⟨rfl, by decide, kx_t1 57 (by decide +kernel) rfl, ly_X2⟩
theorem fl_X6_71 : kx_FL RX6 71 2 6 := ⟨rfl, by decide, kx_t1 58 (by decide +kernel) rfl, ly_X2⟩
theorem fl_X8_109 : kx_FL RX8 109 2 6 := ⟨rfl, by decide, kx_t1 59 (by decide +kernel) rfl, ly_X2⟩
theorem fl_X4_49 : kx_FL RX4 49 2 6 := ⟨rfl, by decide, kx_t1 60 (by decide +kernel) rfl, ly_X2⟩
theorem fl_X2_24 : kx_FL RX2 24 2 7 := ⟨rfl, by decide, kx_t1 61 (by decide +kernel) rfl, ly_X2⟩
theorem fl_X1_24 : kx_FL RX1 24 2 7 := ⟨rfl, by decide, kx_t1 62 (by decide +kernel) rfl, ly_X2⟩
theorem fl_X3_48 : kx_FL RX3 48 2 7 := ⟨rfl, by decide, kx_t1 63 (by decide +kernel) rfl, ly_X2⟩
theorem fl_X8_116 : kx_FL RX8 116 2 7 := ⟨rfl, by decide, kx_t1 64 (by decide +kernel) rfl, ly_X2⟩
theorem fl_X2_27 : kx_FL RX2 27 2 8 := ⟨rfl, by decide, kx_t1 65 (by decide +kernel) rfl, ly_X2⟩
theorem fl_X8_145 : kx_FL RX8 145 2 8 := ⟨rfl, by decide, kx_t1 66 (by decide +kernel) rfl, ly_X2⟩
theorem fl_X2_30 : kx_FL RX2 30 2 9 := ⟨rfl, by decide, kx_t1 67 (by decide +kernel) rfl, ly_X2⟩
theorem fl_X6_51 : kx_FL RX6 51 2 9 := ⟨rfl, by decide, kx_t1 68 (by decide +kernel) rfl, ly_X2⟩
theorem fl_X2_33 : kx_FL RX2 33 2 10 := ⟨rfl, by decide, kx_t1 69 (by decide +kernel) rfl, ly_X2⟩
theorem fl_X8_106 : kx_FL RX8 106 2 10 := ⟨rfl, by decide, kx_t1 70 (by decide +kernel) rfl, ly_X2⟩
theorem fl_X2_66 : kx_FL RX2 66 2 11 := ⟨rfl, by decide, kx_t1 71 (by decide +kernel) rfl, ly_X2⟩
theorem fl_X8_154 : kx_FL RX8 154 2 11 := ⟨rfl, by decide, kx_t1 72 (by decide +kernel) rfl, ly_X2⟩
theorem fl_X2_69 : kx_FL RX2 69 2 12 := ⟨rfl, by decide, kx_t1 73 (by decide +kernel) rfl, ly_X2⟩
theorem fl_X8_157 : kx_FL RX8 157 2 12 := ⟨rfl, by decide, kx_t1 74 (by decide +kernel) rfl, ly_X2⟩
theorem fl_X2_77 : kx_FL RX2 77 2 13 := ⟨rfl, by decide, kx_t1 75 (by decide +kernel) rfl, ly_X2⟩
theorem fl_X7_9 : kx_FL RX7 9 7 0 := ⟨rfl, by decide, kx_t1 112 (by decide +kernel) rfl, ly_X7⟩
theorem fl_X7_15 : kx_FL RX7 15 7 1 := ⟨rfl, by decide, kx_t1 113 (by decide +kernel) rfl, ly_X7⟩
theorem fl_X8_83 : kx_FL RX8 83 7 1 := ⟨rfl, by decide, kx_t1 114 (by decide +kernel) rfl, ly_X7⟩
theorem fl_X6_9 : kx_FL RX6 9 6 0 := ⟨rfl, by decide, kx_t1 128 (by decide +kernel) rfl, ly_X6⟩
theorem fl_X6_15 : kx_FL RX6 15 6 1 := ⟨rfl, by decide, kx_t1 129 (by decide +kernel) rfl, ly_X6⟩
theorem fl_X6_18 : kx_FL RX6 18 6 2 := ⟨rfl, by decide, kx_t1 130 (by decide +kernel) rfl, ly_X6⟩
theorem fl_X6_21 : kx_FL RX6 21 6 3 := ⟨rfl, by decide, kx_t1 131 (by decide +kernel) rfl, ly_X6⟩
theorem fl_X6_24 : kx_FL RX6 24 6 4 := ⟨rfl, by decide, kx_t1 132 (by decide +kernel) rfl, ly_X6⟩
theorem fl_X8_174 : kx_FL RX8 174 6 4 := ⟨rfl, by decide, kx_t1 133 (by decide +kernel) rfl, ly_X6⟩
theorem fl_X6_33 : kx_FL RX6 33 6 5 := ⟨rfl, by decide, kx_t1 134 (by decide +kernel) rfl, ly_X6⟩
theorem fl_X6_34 : kx_FL RX6 34 6 6 := ⟨rfl, by decide, kx_t1 135 (by decide +kernel) rfl, ly_X6⟩
theorem fl_X6_38 : kx_FL RX6 38 6 7 := ⟨rfl, by decide, kx_t1 136 (by decide +kernel) rfl, ly_X6⟩
theorem fl_X6_44 : kx_FL RX6 44 6 8 := ⟨rfl, by decide, kx_t1 137 (by decide +kernel) rfl, ly_X6⟩
theorem fl_X6_45 : kx_FL RX6 45 6 9 := ⟨rfl, by decide, kx_t1 138 (by decide +kernel) rfl, ly_X6⟩
theorem fl_X6_48 : kx_FL RX6 48 6 10 := ⟨rfl, by decide, kx_t1 139 (by decide +kernel) rfl, ly_X6⟩
theorem fl_X8_171 : kx_FL RX8 171 6 10 := ⟨rfl, by decide, kx_t1 140 (by decide +kernel) rfl, ly_X6⟩
theorem fl_X0_11 : kx_FL RX0 11 0 0 := ⟨rfl, by decide, kx_t1 171 (by decide +kernel) rfl, ly_X0⟩
theorem fl_X0_16 : kx_FL RX0 16 0 1 := ⟨rfl, by decide, kx_t1 172 (by decide +kernel) rfl, ly_X0⟩
theorem fl_X0_20 : kx_FL RX0 20 0 2 := ⟨rfl, by decide, kx_t1 173 (by decide +kernel) rfl, ly_X0⟩
theorem fl_X0_23 : kx_FL RX0 23 0 3 := ⟨rfl, by decide, kx_t1 174 (by decide +kernel) rfl, ly_X0⟩
theorem fl_X0_27 : kx_FL RX0 27 0 4 := ⟨rfl, by decide, kx_t1 175 (by decide +kernel) rfl, ly_X0⟩
theorem fl_X0_30 : kx_FL RX0 30 0 5 := ⟨rfl, by decide, kx_t1 176 (by decide +kernel) rfl, ly_X0⟩
theorem fl_X8_225 : kx_FL RX8 225 0 5 := ⟨rfl, by decide, kx_t1 177 (by decide +kernel) rfl, ly_X0⟩
theorem fl_X0_39 : kx_FL RX0 39 0 6 := ⟨rfl, by decide, kx_t1 178 (by decide +kernel) rfl, ly_X0⟩
theorem fl_X0_43 : kx_FL RX0 43 0 7 := ⟨rfl, by decide, kx_t1 179 (by decide +kernel) rfl, ly_X0⟩
theorem fl_X0_44 : kx_FL RX0 44 0 8 := ⟨rfl, by decide, kx_t1 180 (by decide +kernel) rfl, ly_X0⟩
theorem fl_X8_222 : kx_FL RX8 222 0 8 := ⟨rfl, by decide, kx_t1 181 (by decide +kernel) rfl, ly_X0⟩
theorem fl_X4_9 : kx_FL RX4 9 4 0 := ⟨rfl, by decide, kx_t1 208 (by decide +kernel) rfl, ly_X4⟩
theorem fl_X4_15 : kx_FL RX4 15 4 1 := ⟨rfl, by decide, kx_t1 209 (by decide +kernel) rfl, ly_X4⟩
theorem fl_X8_235 : kx_FL RX8 235 4 1 := ⟨rfl, by decide, kx_t1 210 (by decide +kernel) rfl, ly_X4⟩
theorem fl_X4_32 : kx_FL RX4 32 4 2 := ⟨rfl, by decide, kx_t1 211 (by decide +kernel) rfl, ly_X4⟩
theorem fl_X8_229 : kx_FL RX8 229 4 2 := ⟨rfl, by decide, kx_t1 212 (by decide +kernel) rfl, ly_X4⟩
theorem fl_X4_35 : kx_FL RX4 35 4 3 := ⟨rfl, by decide, kx_t1 213 (by decide +kernel) rfl, ly_X4⟩
theorem fl_X8_232 : kx_FL RX8 232 4 3 := ⟨rfl, by decide, kx_t1 214 (by decide +kernel) rfl, ly_X4⟩
theorem fl_X3_11 : kx_FL RX3 11 3 0 := ⟨rfl, by decide, kx_t1 231 (by decide +kernel) rfl, ly_X3⟩
theorem fl_X3_16 : kx_FL RX3 16 3 1 := ⟨rfl, by decide, kx_t1 232 (by decide +kernel) rfl, ly_X3⟩
theorem fl_X3_20 : kx_FL RX3 20 3 2 := ⟨rfl, by decide, kx_t1 233 (by decide +kernel) rfl, ly_X3⟩
theorem fl_X3_23 : kx_FL RX3 23 3 3 := ⟨rfl, by decide, kx_t1 234 (by decide +kernel) rfl, ly_X3⟩
theorem fl_X3_26 : kx_FL RX3 26 3 4 := ⟨rfl, by decide, kx_t1 235 (by decide +kernel) rfl, ly_X3⟩
theorem fl_X8_256 : kx_FL RX8 256 3 4 := ⟨rfl, by decide, kx_t1 236 (by decide +kernel) rfl, ly_X3⟩
theorem fl_X3_44 : kx_FL RX3 44 3 5 := ⟨rfl, by decide, kx_t1 237 (by decide +kernel) rfl, ly_X3⟩
theorem fl_X3_38 : kx_FL RX3 38 3 6 := ⟨rfl, by decide, kx_t1 238 (by decide +kernel) rfl, ly_X3⟩
theorem fl_X3_45 : kx_FL RX3 45 3 7 := ⟨rfl, by decide, kx_t1 239 (by decide +kernel) rfl, ly_X3⟩
theorem fl_X3_29 : kx_FL RX3 29 3 8 := ⟨rfl, by decide, kx_t1 240 (by decide +kernel) rfl, ly_X3⟩
theorem fl_X8_255 : kx_FL RX8 255 3 8 := ⟨rfl, by decide, kx_t1 241 (by decide +kernel) rfl, ly_X3⟩
theorem fl_X1_9 : kx_FL RX1 9 1 0 := ⟨rfl, by decide, kx_t1 267 (by decide +kernel) rfl, ly_X1⟩
theorem fl_X1_20 : kx_FL RX1 20 1 1 := ⟨rfl, by decide, kx_t1 268 (by decide +kernel) rfl, ly_X1⟩
theorem fl_X1_47 : kx_FL RX1 47 1 2 := ⟨rfl, by decide, kx_t1 269 (by decide +kernel) rfl, ly_X1⟩
theorem fl_X8_191 : kx_FL RX8 191 1 2 := ⟨rfl, by decide, kx_t1 270 (by decide +kernel) rfl, ly_X1⟩
theorem fl_X1_50 : kx_FL RX1 50 1 3 := ⟨rfl, by decide, kx_t1 271 (by decide +kernel) rfl, ly_X1⟩
theorem fl_X8_194 : kx_FL RX8 194 1 3 := ⟨rfl, by decide, kx_t1 272 (by decide +kernel) rfl, ly_X1⟩
theorem fl_X5_9 : kx_FL RX5 9 5 0 := ⟨rfl, by decide, kx_t1 287 (by decide +kernel) rfl, ly_X5⟩
theorem fl_X8_263 : kx_FL RX8 263 5 0 := ⟨rfl, by decide, kx_t1 288 (by decide +kernel) rfl, ly_X5⟩
theorem fl_X5_19 : kx_FL RX5 19 5 1 := ⟨rfl, by decide, kx_t1 289 (by decide +kernel) rfl, ly_X5⟩
theorem fl_X8_266 : kx_FL RX8 266 5 1 := ⟨rfl, by decide, kx_t1 290 (by decide +kernel) rfl, ly_X5⟩
theorem fl_X5_15 : kx_FL RX5 15 5 2 := ⟨rfl, by decide, kx_t1 291 (by decide +kernel) rfl, ly_X5⟩
theorem fl_X8_270 : kx_FL RX8 270 5 2 := ⟨rfl, by decide, kx_t1 292 (by decide +kernel) rfl, ly_X5⟩
theorem fl_X8_10 : kx_FL RX8 10 8 0 := ⟨rfl, by decide, kx_t1 300 (by decide +kernel) rfl, ly_X8⟩
theorem fl_X8_16 : kx_FL RX8 16 8 1 := ⟨rfl, by decide, kx_t1 301 (by decide +kernel) rfl, ly_X8⟩
theorem fl_X8_204 : kx_FL RX8 204 8 2 := ⟨rfl, by decide, kx_t1 302 (by decide +kernel) rfl, ly_X8⟩
theorem fl_X8_22 : kx_FL RX8 22 8 3 := ⟨rfl, by decide, kx_t1 303 (by decide +kernel) rfl, ly_X8⟩
theorem fl_X8_28 : kx_FL RX8 28 8 4 := ⟨rfl, by decide, kx_t1 304 (by decide +kernel) rfl, ly_X8⟩
theorem fl_X8_32 : kx_FL RX8 32 8 5 := ⟨rfl, by decide, kx_t1 305 (by decide +kernel) rfl, ly_X8⟩
theorem fl_X8_36 : kx_FL RX8 36 8 6 := ⟨rfl, by decide, kx_t1 306 (by decide +kernel) rfl, ly_X8⟩
theorem fl_X8_42 : kx_FL RX8 42 8 7 := ⟨rfl, by decide, kx_t1 307 (by decide +kernel) rfl, ly_X8⟩
theorem fl_X8_49 : kx_FL RX8 49 8 8 := ⟨rfl, by decide, kx_t1 308 (by decide +kernel) rfl, ly_X8⟩
theorem fl_X8_56 : kx_FL RX8 56 8 9 := ⟨rfl, by decide, kx_t1 309 (by decide +kernel) rfl, ly_X8⟩
theorem fl_X8_63 : kx_FL RX8 63 8 10 := ⟨rfl, by decide, kx_t1 310 (by decide +kernel) rfl, ly_X8⟩
theorem fl_X8_70 : kx_FL RX8 70 8 11 := ⟨rfl, by decide, kx_t1 311 (by decide +kernel) rfl, ly_X8⟩
theorem fl_X9_7 : kx_FL RX9 7 9 0 := ⟨rfl, by decide, kx_t1 723 (by decide +kernel) rfl, ly_X9⟩
theorem fl_X9_13 : kx_FL RX9 13 9 1 := ⟨rfl, by decide, kx_t1 724 (by decide +kernel) rfl, ly_X9⟩
theorem fl_X9_127 : kx_FL RX9 127 9 2 := ⟨rfl, by decide, kx_t1 725 (by decide +kernel) rfl, ly_X9⟩
theorem fl_X9_16 : kx_FL RX9 16 9 3 := ⟨rfl, by decide, kx_t1 726 (by decide +kernel) rfl, ly_X9⟩
theorem fl_X9_64 : kx_FL RX9 64 9 4 := ⟨rfl, by decide, kx_t1 727 (by decide +kernel) rfl, ly_X9⟩
theorem fl_X9_19 : kx_FL RX9 19 9 5 := ⟨rfl, by decide, kx_t1 728 (by decide +kernel) rfl, ly_X9⟩
theorem fl_X9_22 : kx_FL RX9 22 9 6 := ⟨rfl, by decide, kx_t1 729 (by decide +kernel) rfl, ly_X9⟩
theorem fl_X9_25 : kx_FL RX9 25 9 7 := ⟨rfl, by decide, kx_t1 730 (by decide +kernel) rfl, ly_X9⟩
theorem fl_X9_28 : kx_FL RX9 28 9 8 := ⟨rfl, by decide, kx_t1 731 (by decide +kernel) rfl, ly_X9⟩
theorem fl_X9_31 : kx_FL RX9 31 9 9 := ⟨rfl, by decide, kx_t1 732 (by decide +kernel) rfl, ly_X9⟩
theorem fl_X9_34 : kx_FL RX9 34 9 10 := ⟨rfl, by decide, kx_t1 733 (by decide +kernel) rfl, ly_X9⟩
theorem fl_X9_37 : kx_FL RX9 37 9 11 := ⟨rfl, by decide, kx_t1 734 (by decide +kernel) rfl, ly_X9⟩
theorem fl_X9_40 : kx_FL RX9 40 9 12 := ⟨rfl, by decide, kx_t1 735 (by decide +kernel) rfl, ly_X9⟩
theorem fl_X9_43 : kx_FL RX9 43 9 13 := ⟨rfl, by decide, kx_t1 736 (by decide +kernel) rfl, ly_X9⟩
theorem fl_X9_46 : kx_FL RX9 46 9 14 := ⟨rfl, by decide, kx_t1 737 (by decide +kernel) rfl, ly_X9⟩
theorem fl_X9_49 : kx_FL RX9 49 9 15 := ⟨rfl, by decide, kx_t1 738 (by decide +kernel) rfl, ly_X9⟩
theorem fp_X0_6 : kx_FP 0 6 .int := ⟨by decide +kernel, by decide +kernel, ⟨tyX0, tyX0_ok⟩, nmX0⟩
theorem fp_X0_7 : kx_FP 0 7 .int := ⟨by decide +kernel, by decide +kernel, ⟨tyX0, tyX0_ok⟩, nmX0⟩
theorem fp_X0_8 : kx_FP 0 8 .int := ⟨by decide +kernel, by decide +kernel, ⟨tyX0, tyX0_ok⟩, nmX0⟩
theorem fp_X1_1 : kx_FP 1 1 .int := ⟨by decide +kernel, by decide +kernel, ⟨tyX1, tyX1_ok⟩, nmX1⟩
theorem fp_X1_2 : kx_FP 1 2 .int := ⟨by decide +kernel, by decide +kernel, ⟨tyX1, tyX1_ok⟩, nmX1⟩
theorem fp_X1_3 : kx_FP 1 3 .int := ⟨by decide +kernel, by decide +kernel, ⟨tyX1, tyX1_ok⟩, nmX1⟩
theorem fp_X2_0 : kx_FP 2 0 .int := ⟨by decide +kernel, by decide +kernel, ⟨tyX2, tyX2_ok⟩, nmX2⟩
theorem fp_X2_1 : kx_FP 2 1 .int := ⟨by decide +kernel, by decide +kernel, ⟨tyX2, tyX2_ok⟩, nmX2⟩
theorem fp_X2_2 : kx_FP 2 2 .int := ⟨by decide +kernel, by decide +kernel, ⟨tyX2, tyX2_ok⟩, nmX2⟩
theorem fp_X2_3 : kx_FP 2 3 .int := ⟨by decide +kernel, by decide +kernel, ⟨tyX2, tyX2_ok⟩, nmX2⟩
theorem fp_X2_4 : kx_FP 2 4 .int := ⟨by decide +kernel, by decide +kernel, ⟨tyX2, tyX2_ok⟩, nmX2⟩
theorem fp_X2_10 : kx_FP 2 10 .int := ⟨by decide +kernel, by decide +kernel, ⟨tyX2, tyX2_ok⟩, nmX2⟩
theorem fp_X2_11 : kx_FP 2 11 .int := ⟨by decide +kernel, by decide +kernel, ⟨tyX2, tyX2_ok⟩, nmX2⟩
theorem fp_X2_12 : kx_FP 2 12 .int := ⟨by decide +kernel, by decide +kernel, ⟨tyX2, tyX2_ok⟩, nmX2⟩
theorem fp_X2_13 : kx_FP 2 13 .int := ⟨by decide +kernel, by decide +kernel, ⟨tyX2, tyX2_ok⟩, nmX2⟩
theorem fp_X3_5 : kx_FP 3 5 .int := ⟨by decide +kernel, by decide +kernel, ⟨tyX3, tyX3_ok⟩, nmX3⟩
theorem fp_X3_6 : kx_FP 3 6 .int := ⟨by decide +kernel, by decide +kernel, ⟨tyX3, tyX3_ok⟩, nmX3⟩
theorem fp_X3_7 : kx_FP 3 7 .int := ⟨by decide +kernel, by decide +kernel, ⟨tyX3, tyX3_ok⟩, nmX3⟩
theorem fp_X3_8 : kx_FP 3 8 .int := ⟨by decide +kernel, by decide +kernel, ⟨tyX3, tyX3_ok⟩, nmX3⟩
theorem fp_X4_2 : kx_FP 4 2 .int := ⟨by decide +kernel, by decide +kernel, ⟨tyX4, tyX4_ok⟩, nmX4⟩
theorem fp_X4_3 : kx_FP 4 3 .int := ⟨by decide +kernel, by decide +kernel, ⟨tyX4, tyX4_ok⟩, nmX4⟩
theorem fp_X5_0 : kx_FP 5 0 .int := ⟨by decide +kernel, by decide +kernel, ⟨tyX5, tyX5_ok⟩, nmX5⟩
theorem fp_X5_1 : kx_FP 5 1 .int := ⟨by decide +kernel, by decide +kernel, ⟨tyX5, tyX5_ok⟩, nmX5⟩
theorem fp_X6_5 : kx_FP 6 5 .int := ⟨by decide +kernel, by decide +kernel, ⟨tyX6, tyX6_ok⟩, nmX6⟩
theorem fp_X6_6 : kx_FP 6 6 .int := ⟨by decide +kernel, by decide +kernel, ⟨tyX6, tyX6_ok⟩, nmX6⟩
theorem fp_X6_7 : kx_FP 6 7 .int := ⟨by decide +kernel, by decide +kernel, ⟨tyX6, tyX6_ok⟩, nmX6⟩
theorem fp_X6_8 : kx_FP 6 8 .int := ⟨by decide +kernel, by decide +kernel, ⟨tyX6, tyX6_ok⟩, nmX6⟩
theorem fp_X6_9 : kx_FP 6 9 .int := ⟨by decide +kernel, by decide +kernel, ⟨tyX6, tyX6_ok⟩, nmX6⟩
theorem fp_X6_10 : kx_FP 6 10 .int := ⟨by decide +kernel, by decide +kernel, ⟨tyX6, tyX6_ok⟩, nmX6⟩
theorem fp_X7_1 : kx_FP 7 1 .int := ⟨by decide +kernel, by decide +kernel, ⟨tyX7, tyX7_ok⟩, nmX7⟩
theorem fp_X8_2 : kx_FP 8 2 .boolean := ⟨by decide +kernel, by decide +kernel, ⟨tyX8, tyX8_ok⟩, nmX8⟩
theorem fp_X9_2 : kx_FP 9 2 .boolean := ⟨by decide +kernel, by decide +kernel, ⟨tyX9, tyX9_ok⟩, nmX9⟩
theorem fp_X9_4 : kx_FP 9 4 .int := ⟨by decide +kernel, by decide +kernel, ⟨tyX9, tyX9_ok⟩, nmX9⟩
theorem ob_0 : kx_ob 0 8 := by unfold kx_ob; decide +kernel
theorem fd_0_0 : kx_fd 0 8 0 (some 1) := by unfold kx_fd; decide +kernel
theorem fd_0_1 : kx_fd 0 8 1 (some 23) := by unfold kx_fd; decide +kernel
theorem fd_0_2 : kx_fd 0 8 2 none := by unfold kx_fd; decide +kernel
theorem fd_0_3 : kx_fd 0 8 3 (some 45) := by unfold kx_fd; decide +kernel
theorem fd_0_4 : kx_fd 0 8 4 (some 47) := by unfold kx_fd; decide +kernel
theorem fd_0_5 : kx_fd 0 8 5 (some 56) := by unfold kx_fd; decide +kernel
theorem fd_0_6 : kx_fd 0 8 6 (some 57) := by unfold kx_fd; decide +kernel
theorem fd_0_7 : kx_fd 0 8 7 (some 58) := by unfold kx_fd; decide +kernel
theorem fd_0_8 : kx_fd 0 8 8 (some 64) := by unfold kx_fd; decide +kernel
theorem fd_0_9 : kx_fd 0 8 9 (some 112) := by unfold kx_fd; decide +kernel
theorem fd_0_10 : kx_fd 0 8 10 (some 115) := by unfold kx_fd; decide +kernel
theorem fd_0_11 : kx_fd 0 8 11 (some 125) := by unfold kx_fd; decide +kernel
theorem ob_1 : kx_ob 1 2 := by unfold kx_ob; decide +kernel
theorem fd_1_0 : kx_fd 1 2 0 none := by unfold kx_fd; decide +kernel
theorem fd_1_1 : kx_fd 1 2 1 none := by unfold kx_fd; decide +kernel
theorem fd_1_2 : kx_fd 1 2 2 none := by unfold kx_fd; decide +kernel
theorem fd_1_3 : kx_fd 1 2 3 none := by unfold kx_fd; decide +kernel
theorem fd_1_4 : kx_fd 1 2 4 none := by unfold kx_fd; decide +kernel
theorem fd_1_5 : kx_fd 1 2 5 (some 2) := by unfold kx_fd; decide +kernel
theorem fd_1_6 : kx_fd 1 2 6 (some 3) := by unfold kx_fd; decide +kernel
theorem fd_1_7 : kx_fd 1 2 7 (some 12) := by unfold kx_fd; decide +kernel
theorem fd_1_8 : kx_fd 1 2 8 (some 13) := by unfold kx_fd; decide +kernel
theorem fd_1_9 : kx_fd 1 2 9 (some 18) := by unfold kx_fd; decide +kernel
theorem fd_1_10 : kx_fd 1 2 10 none := by unfold kx_fd; decide +kernel
theorem fd_1_11 : kx_fd 1 2 11 none := by unfold kx_fd; decide +kernel
theorem fd_1_12 : kx_fd 1 2 12 none := by unfold kx_fd; decide +kernel
theorem fd_1_13 : kx_fd 1 2 13 none := by unfold kx_fd; decide +kernel
theorem ia_2 : kx_ia 2 8 := by unfold kx_ia; decide +kernel
theorem ra_3 : kx_ra 3 4 1 8 := by unfold kx_ra; decide +kernel
theorem ia_4 : kx_ia 4 9 := by unfold kx_ia; decide +kernel
theorem ia_5 : kx_ia 5 9 := by unfold kx_ia; decide +kernel
theorem ia_6 : kx_ia 6 9 := by unfold kx_ia; decide +kernel
theorem ia_7 : kx_ia 7 9 := by unfold kx_ia; decide +kernel
theorem ia_8 : kx_ia 8 9 := by unfold kx_ia; decide +kernel
theorem ia_9 : kx_ia 9 9 := by unfold kx_ia; decide +kernel
theorem ia_10 : kx_ia 10 9 := by unfold kx_ia; decide +kernel
theorem ia_11 : kx_ia 11 9 := by unfold kx_ia; decide +kernel
theorem ia_12 : kx_ia 12 4 := by unfold kx_ia; decide +kernel
theorem ra_13 : kx_ra 13 14 1 4 := by unfold kx_ra; decide +kernel
theorem ia_14 : kx_ia 14 4 := by unfold kx_ia; decide +kernel
theorem ia_15 : kx_ia 15 4 := by unfold kx_ia; decide +kernel
theorem ia_16 : kx_ia 16 4 := by unfold kx_ia; decide +kernel
theorem ia_17 : kx_ia 17 4 := by unfold kx_ia; decide +kernel
theorem ra_18 : kx_ra 18 19 1 4 := by unfold kx_ra; decide +kernel
theorem ia_19 : kx_ia 19 8 := by unfold kx_ia; decide +kernel
theorem ia_20 : kx_ia 20 8 := by unfold kx_ia; decide +kernel
theorem ia_21 : kx_ia 21 8 := by unfold kx_ia; decide +kernel
theorem ia_22 : kx_ia 22 8 := by unfold kx_ia; decide +kernel
theorem ob_23 : kx_ob 23 2 := by unfold kx_ob; decide +kernel
theorem fd_23_0 : kx_fd 23 2 0 none := by unfold kx_fd; decide +kernel
theorem fd_23_1 : kx_fd 23 2 1 none := by unfold kx_fd; decide +kernel
theorem fd_23_2 : kx_fd 23 2 2 none := by unfold kx_fd; decide +kernel
theorem fd_23_3 : kx_fd 23 2 3 none := by unfold kx_fd; decide +kernel
theorem fd_23_4 : kx_fd 23 2 4 none := by unfold kx_fd; decide +kernel
theorem fd_23_5 : kx_fd 23 2 5 (some 24) := by unfold kx_fd; decide +kernel
theorem fd_23_6 : kx_fd 23 2 6 (some 25) := by unfold kx_fd; decide +kernel
theorem fd_23_7 : kx_fd 23 2 7 (some 34) := by unfold kx_fd; decide +kernel
theorem fd_23_8 : kx_fd 23 2 8 (some 35) := by unfold kx_fd; decide +kernel
theorem fd_23_9 : kx_fd 23 2 9 (some 40) := by unfold kx_fd; decide +kernel
theorem fd_23_10 : kx_fd 23 2 10 none := by unfold kx_fd; decide +kernel
theorem fd_23_11 : kx_fd 23 2 11 none := by unfold kx_fd; decide +kernel
theorem fd_23_12 : kx_fd 23 2 12 none := by unfold kx_fd; decide +kernel
theorem fd_23_13 : kx_fd 23 2 13 none := by unfold kx_fd; decide +kernel
theorem ia_24 : kx_ia 24 8 := by unfold kx_ia; decide +kernel
theorem ra_25 : kx_ra 25 26 1 8 := by unfold kx_ra; decide +kernel
theorem ia_26 : kx_ia 26 9 := by unfold kx_ia; decide +kernel
theorem ia_27 : kx_ia 27 9 := by unfold kx_ia; decide +kernel
theorem ia_28 : kx_ia 28 9 := by unfold kx_ia; decide +kernel
theorem ia_29 : kx_ia 29 9 := by unfold kx_ia; decide +kernel
theorem ia_30 : kx_ia 30 9 := by unfold kx_ia; decide +kernel
theorem ia_31 : kx_ia 31 9 := by unfold kx_ia; decide +kernel
theorem ia_32 : kx_ia 32 9 := by unfold kx_ia; decide +kernel
theorem ia_33 : kx_ia 33 9 := by unfold kx_ia; decide +kernel
theorem ia_34 : kx_ia 34 4 := by unfold kx_ia; decide +kernel
theorem ra_35 : kx_ra 35 36 1 4 := by unfold kx_ra; decide +kernel
theorem ia_36 : kx_ia 36 4 := by unfold kx_ia; decide +kernel
theorem ia_37 : kx_ia 37 4 := by unfold kx_ia; decide +kernel
theorem ia_38 : kx_ia 38 4 := by unfold kx_ia; decide +kernel
theorem ia_39 : kx_ia 39 4 := by unfold kx_ia; decide +kernel
theorem ra_40 : kx_ra 40 41 1 4 := by unfold kx_ra; decide +kernel
theorem ia_41 : kx_ia 41 8 := by unfold kx_ia; decide +kernel
theorem ia_42 : kx_ia 42 8 := by unfold kx_ia; decide +kernel
theorem ia_43 : kx_ia 43 8 := by unfold kx_ia; decide +kernel
theorem ia_44 : kx_ia 44 8 := by unfold kx_ia; decide +kernel
theorem ob_45 : kx_ob 45 7 := by unfold kx_ob; decide +kernel
theorem fd_45_0 : kx_fd 45 7 0 (some 46) := by unfold kx_fd; decide +kernel
theorem fd_45_1 : kx_fd 45 7 1 none := by unfold kx_fd; decide +kernel
theorem ia_46 : kx_ia 46 24 := by unfold kx_ia; decide +kernel
theorem ra_47 : kx_ra 47 48 2 4 := by unfold kx_ra; decide +kernel
theorem ob_48 : kx_ob 48 5 := by unfold kx_ob; decide +kernel
theorem fd_48_0 : kx_fd 48 5 0 none := by unfold kx_fd; decide +kernel
theorem fd_48_1 : kx_fd 48 5 1 none := by unfold kx_fd; decide +kernel
theorem fd_48_2 : kx_fd 48 5 2 (some 49) := by unfold kx_fd; decide +kernel
theorem ia_49 : kx_ia 49 24 := by unfold kx_ia; decide +kernel
theorem ob_50 : kx_ob 50 5 := by unfold kx_ob; decide +kernel
theorem fd_50_0 : kx_fd 50 5 0 none := by unfold kx_fd; decide +kernel
theorem fd_50_1 : kx_fd 50 5 1 none := by unfold kx_fd; decide +kernel
theorem fd_50_2 : kx_fd 50 5 2 (some 51) := by unfold kx_fd; decide +kernel
theorem ia_51 : kx_ia 51 24 := by unfold kx_ia; decide +kernel
theorem ob_52 : kx_ob 52 5 := by unfold kx_ob; decide +kernel
theorem fd_52_0 : kx_fd 52 5 0 none := by unfold kx_fd; decide +kernel
theorem fd_52_1 : kx_fd 52 5 1 none := by unfold kx_fd; decide +kernel
theorem fd_52_2 : kx_fd 52 5 2 (some 53) := by unfold kx_fd; decide +kernel
theorem ia_53 : kx_ia 53 24 := by unfold kx_ia; decide +kernel
theorem ob_54 : kx_ob 54 5 := by unfold kx_ob; decide +kernel
theorem fd_54_0 : kx_fd 54 5 0 none := by unfold kx_fd; decide +kernel
theorem fd_54_1 : kx_fd 54 5 1 none := by unfold kx_fd; decide +kernel
theorem fd_54_2 : kx_fd 54 5 2 (some 55) := by unfold kx_fd; decide +kernel
theorem ia_55 : kx_ia 55 24 := by unfold kx_ia; decide +kernel
theorem ia_56 : kx_ia 56 16 := by unfold kx_ia; decide +kernel
theorem ia_57 : kx_ia 57 18 := by unfold kx_ia; decide +kernel
theorem ob_58 : kx_ob 58 6 := by unfold kx_ob; decide +kernel
theorem fd_58_0 : kx_fd 58 6 0 (some 59) := by unfold kx_fd; decide +kernel
theorem fd_58_1 : kx_fd 58 6 1 (some 60) := by unfold kx_fd; decide +kernel
theorem fd_58_2 : kx_fd 58 6 2 (some 61) := by unfold kx_fd; decide +kernel
theorem fd_58_3 : kx_fd 58 6 3 (some 62) := by unfold kx_fd; decide +kernel
theorem fd_58_4 : kx_fd 58 6 4 (some 63) := by unfold kx_fd; decide +kernel
theorem fd_58_5 : kx_fd 58 6 5 none := by unfold kx_fd; decide +kernel
theorem fd_58_6 : kx_fd 58 6 6 none := by unfold kx_fd; decide +kernel
theorem fd_58_7 : kx_fd 58 6 7 none := by unfold kx_fd; decide +kernel
theorem fd_58_8 : kx_fd 58 6 8 none := by unfold kx_fd; decide +kernel
theorem fd_58_9 : kx_fd 58 6 9 none := by unfold kx_fd; decide +kernel
theorem fd_58_10 : kx_fd 58 6 10 none := by unfold kx_fd; decide +kernel
theorem ia_59 : kx_ia 59 8 := by unfold kx_ia; decide +kernel
theorem ia_60 : kx_ia 60 8 := by unfold kx_ia; decide +kernel
theorem ia_61 : kx_ia 61 8 := by unfold kx_ia; decide +kernel
theorem ia_62 : kx_ia 62 5 := by unfold kx_ia; decide +kernel
theorem ia_63 : kx_ia 63 5 := by unfold kx_ia; decide +kernel
theorem ob_64 : kx_ob 64 0 := by unfold kx_ob; decide +kernel
theorem fd_64_0 : kx_fd 64 0 0 (some 65) := by unfold kx_fd; decide +kernel
theorem fd_64_1 : kx_fd 64 0 1 (some 98) := by unfold kx_fd; decide +kernel
theorem fd_64_2 : kx_fd 64 0 2 (some 99) := by unfold kx_fd; decide +kernel
theorem fd_64_3 : kx_fd 64 0 3 (some 109) := by unfold kx_fd; decide +kernel
theorem fd_64_4 : kx_fd 64 0 4 (some 110) := by unfold kx_fd; decide +kernel
theorem fd_64_5 : kx_fd 64 0 5 (some 111) := by unfold kx_fd; decide +kernel
theorem fd_64_6 : kx_fd 64 0 6 none := by unfold kx_fd; decide +kernel
theorem fd_64_7 : kx_fd 64 0 7 none := by unfold kx_fd; decide +kernel
theorem fd_64_8 : kx_fd 64 0 8 none := by unfold kx_fd; decide +kernel
theorem ra_65 : kx_ra 65 66 1 32 := by unfold kx_ra; decide +kernel
theorem ia_66 : kx_ia 66 4 := by unfold kx_ia; decide +kernel
theorem ia_67 : kx_ia 67 4 := by unfold kx_ia; decide +kernel
theorem ia_68 : kx_ia 68 4 := by unfold kx_ia; decide +kernel
theorem ia_69 : kx_ia 69 4 := by unfold kx_ia; decide +kernel
theorem ia_70 : kx_ia 70 4 := by unfold kx_ia; decide +kernel
theorem ia_71 : kx_ia 71 4 := by unfold kx_ia; decide +kernel
theorem ia_72 : kx_ia 72 4 := by unfold kx_ia; decide +kernel
theorem ia_73 : kx_ia 73 4 := by unfold kx_ia; decide +kernel
theorem ia_74 : kx_ia 74 4 := by unfold kx_ia; decide +kernel
theorem ia_75 : kx_ia 75 4 := by unfold kx_ia; decide +kernel
theorem ia_76 : kx_ia 76 4 := by unfold kx_ia; decide +kernel
theorem ia_77 : kx_ia 77 4 := by unfold kx_ia; decide +kernel
theorem ia_78 : kx_ia 78 4 := by unfold kx_ia; decide +kernel
theorem ia_79 : kx_ia 79 4 := by unfold kx_ia; decide +kernel
theorem ia_80 : kx_ia 80 4 := by unfold kx_ia; decide +kernel
theorem ia_81 : kx_ia 81 4 := by unfold kx_ia; decide +kernel
theorem ia_82 : kx_ia 82 4 := by unfold kx_ia; decide +kernel
theorem ia_83 : kx_ia 83 4 := by unfold kx_ia; decide +kernel
theorem ia_84 : kx_ia 84 4 := by unfold kx_ia; decide +kernel
theorem ia_85 : kx_ia 85 4 := by unfold kx_ia; decide +kernel
theorem ia_86 : kx_ia 86 4 := by unfold kx_ia; decide +kernel
theorem ia_87 : kx_ia 87 4 := by unfold kx_ia; decide +kernel
theorem ia_88 : kx_ia 88 4 := by unfold kx_ia; decide +kernel
theorem ia_89 : kx_ia 89 4 := by unfold kx_ia; decide +kernel
theorem ia_90 : kx_ia 90 4 := by unfold kx_ia; decide +kernel
theorem ia_91 : kx_ia 91 4 := by unfold kx_ia; decide +kernel
theorem ia_92 : kx_ia 92 4 := by unfold kx_ia; decide +kernel
theorem ia_93 : kx_ia 93 4 := by unfold kx_ia; decide +kernel
theorem ia_94 : kx_ia 94 4 := by unfold kx_ia; decide +kernel
theorem ia_95 : kx_ia 95 4 := by unfold kx_ia; decide +kernel
theorem ia_96 : kx_ia 96 4 := by unfold kx_ia; decide +kernel
theorem ia_97 : kx_ia 97 4 := by unfold kx_ia; decide +kernel
theorem za_98 : kx_za 98 32 := by unfold kx_za; decide +kernel
theorem ra_99 : kx_ra 99 100 1 9 := by unfold kx_ra; decide +kernel
theorem ia_100 : kx_ia 100 4 := by unfold kx_ia; decide +kernel
theorem ia_101 : kx_ia 101 4 := by unfold kx_ia; decide +kernel
theorem ia_102 : kx_ia 102 4 := by unfold kx_ia; decide +kernel
theorem ia_103 : kx_ia 103 4 := by unfold kx_ia; decide +kernel
theorem ia_104 : kx_ia 104 4 := by unfold kx_ia; decide +kernel
theorem ia_105 : kx_ia 105 4 := by unfold kx_ia; decide +kernel
theorem ia_106 : kx_ia 106 4 := by unfold kx_ia; decide +kernel
theorem ia_107 : kx_ia 107 4 := by unfold kx_ia; decide +kernel
theorem ia_108 : kx_ia 108 4 := by unfold kx_ia; decide +kernel
theorem ia_109 : kx_ia 109 4 := by unfold kx_ia; decide +kernel
theorem ia_110 : kx_ia 110 8 := by unfold kx_ia; decide +kernel
theorem ia_111 : kx_ia 111 8 := by unfold kx_ia; decide +kernel
theorem ob_112 : kx_ob 112 4 := by unfold kx_ob; decide +kernel
theorem fd_112_0 : kx_fd 112 4 0 (some 113) := by unfold kx_fd; decide +kernel
theorem fd_112_1 : kx_fd 112 4 1 (some 114) := by unfold kx_fd; decide +kernel
theorem fd_112_2 : kx_fd 112 4 2 none := by unfold kx_fd; decide +kernel
theorem fd_112_3 : kx_fd 112 4 3 none := by unfold kx_fd; decide +kernel
theorem ia_113 : kx_ia 113 256 := by unfold kx_ia; decide +kernel
theorem ia_114 : kx_ia 114 8 := by unfold kx_ia; decide +kernel
theorem ob_115 : kx_ob 115 3 := by unfold kx_ob; decide +kernel
theorem fd_115_0 : kx_fd 115 3 0 (some 116) := by unfold kx_fd; decide +kernel
theorem fd_115_1 : kx_fd 115 3 1 (some 121) := by unfold kx_fd; decide +kernel
theorem fd_115_2 : kx_fd 115 3 2 (some 122) := by unfold kx_fd; decide +kernel
theorem fd_115_3 : kx_fd 115 3 3 (some 123) := by unfold kx_fd; decide +kernel
theorem fd_115_4 : kx_fd 115 3 4 (some 124) := by unfold kx_fd; decide +kernel
theorem fd_115_5 : kx_fd 115 3 5 none := by unfold kx_fd; decide +kernel
theorem fd_115_6 : kx_fd 115 3 6 none := by unfold kx_fd; decide +kernel
theorem fd_115_7 : kx_fd 115 3 7 none := by unfold kx_fd; decide +kernel
theorem fd_115_8 : kx_fd 115 3 8 none := by unfold kx_fd; decide +kernel
theorem ra_116 : kx_ra 116 117 1 4 := by unfold kx_ra; decide +kernel
theorem ia_117 : kx_ia 117 9 := by unfold kx_ia; decide +kernel
theorem ia_118 : kx_ia 118 9 := by unfold kx_ia; decide +kernel
theorem ia_119 : kx_ia 119 9 := by unfold kx_ia; decide +kernel
theorem ia_120 : kx_ia 120 9 := by unfold kx_ia; decide +kernel
theorem ia_121 : kx_ia 121 4 := by unfold kx_ia; decide +kernel
theorem ia_122 : kx_ia 122 9 := by unfold kx_ia; decide +kernel
theorem ia_123 : kx_ia 123 3 := by unfold kx_ia; decide +kernel
theorem ia_124 : kx_ia 124 3 := by unfold kx_ia; decide +kernel
theorem ob_125 : kx_ob 125 1 := by unfold kx_ob; decide +kernel
theorem fd_125_0 : kx_fd 125 1 0 (some 126) := by unfold kx_fd; decide +kernel
theorem fd_125_1 : kx_fd 125 1 1 none := by unfold kx_fd; decide +kernel
theorem fd_125_2 : kx_fd 125 1 2 none := by unfold kx_fd; decide +kernel
theorem fd_125_3 : kx_fd 125 1 3 none := by unfold kx_fd; decide +kernel
theorem ia_126 : kx_ia 126 9 := by unfold kx_ia; decide +kernel
theorem ob_127 : kx_ob 127 9 := by unfold kx_ob; decide +kernel
theorem fd_127_0 : kx_fd 127 9 0 (some 128) := by unfold kx_fd; decide +kernel
theorem fd_127_1 : kx_fd 127 9 1 (some 129) := by unfold kx_fd; decide +kernel
theorem fd_127_2 : kx_fd 127 9 2 none := by unfold kx_fd; decide +kernel
theorem fd_127_3 : kx_fd 127 9 3 (some 130) := by unfold kx_fd; decide +kernel
theorem fd_127_4 : kx_fd 127 9 4 none := by unfold kx_fd; decide +kernel
theorem fd_127_5 : kx_fd 127 9 5 (some 131) := by unfold kx_fd; decide +kernel
theorem fd_127_6 : kx_fd 127 9 6 (some 132) := by unfold kx_fd; decide +kernel
theorem fd_127_7 : kx_fd 127 9 7 (some 133) := by unfold kx_fd; decide +kernel
theorem fd_127_8 : kx_fd 127 9 8 (some 134) := by unfold kx_fd; decide +kernel
theorem fd_127_9 : kx_fd 127 9 9 (some 135) := by unfold kx_fd; decide +kernel
theorem fd_127_10 : kx_fd 127 9 10 (some 136) := by unfold kx_fd; decide +kernel
theorem fd_127_11 : kx_fd 127 9 11 (some 137) := by unfold kx_fd; decide +kernel
theorem fd_127_12 : kx_fd 127 9 12 (some 138) := by unfold kx_fd; decide +kernel
theorem fd_127_13 : kx_fd 127 9 13 (some 139) := by unfold kx_fd; decide +kernel
theorem fd_127_14 : kx_fd 127 9 14 (some 140) := by unfold kx_fd; decide +kernel
theorem fd_127_15 : kx_fd 127 9 15 (some 141) := by unfold kx_fd; decide +kernel
theorem ia_128 : kx_ia 128 141 := by unfold kx_ia; decide +kernel
theorem ia_129 : kx_ia 129 141 := by unfold kx_ia; decide +kernel
theorem ia_130 : kx_ia 130 24 := by unfold kx_ia; decide +kernel
theorem ia_131 : kx_ia 131 4 := by unfold kx_ia; decide +kernel
theorem ia_132 : kx_ia 132 4 := by unfold kx_ia; decide +kernel
theorem ia_133 : kx_ia 133 96 := by unfold kx_ia; decide +kernel
theorem ia_134 : kx_ia 134 8 := by unfold kx_ia; decide +kernel
theorem ia_135 : kx_ia 135 8 := by unfold kx_ia; decide +kernel
theorem ia_136 : kx_ia 136 8 := by unfold kx_ia; decide +kernel
theorem ia_137 : kx_ia 137 128 := by unfold kx_ia; decide +kernel
theorem ia_138 : kx_ia 138 4 := by unfold kx_ia; decide +kernel
theorem ia_139 : kx_ia 139 18 := by unfold kx_ia; decide +kernel
theorem ia_140 : kx_ia 140 9 := by unfold kx_ia; decide +kernel
theorem ia_141 : kx_ia 141 9 := by unfold kx_ia; decide +kernel
theorem fs_0 : ∀ j, j < 4 → kx_fd (48 + 2 * j) 5 0 none := by
  intro j hj
  match j, hj with
  | 0, _ => exact fd_48_0
  | 1, _ => exact fd_50_0
  | 2, _ => exact fd_52_0
  | 3, _ => exact fd_54_0
  | j + 4, hj => exact absurd hj (by omega)
theorem fs_1 : ∀ j, j < 4 → kx_fd (48 + 2 * j) 5 1 none := by
  intro j hj
  match j, hj with
  | 0, _ => exact fd_48_1
  | 1, _ => exact fd_50_1
  | 2, _ => exact fd_52_1
  | 3, _ => exact fd_54_1
  | j + 4, hj => exact absurd hj (by omega)
theorem fs_2 : ∀ j, j < 4 → kx_fd (48 + 2 * j) 5 2 (some (49 + 2 * j)) := by
  intro j hj
  match j, hj with
  | 0, _ => exact fd_48_2
  | 1, _ => exact fd_50_2
  | 2, _ => exact fd_52_2
  | 3, _ => exact fd_54_2
  | j + 4, hj => exact absurd hj (by omega)
theorem fs_o : ∀ j, j < 4 → kx_ob (48 + 2 * j) 5 := by
  intro j hj
  match j, hj with
  | 0, _ => exact ob_48
  | 1, _ => exact ob_50
  | 2, _ => exact ob_52
  | 3, _ => exact ob_54
  | j + 4, hj => exact absurd hj (by omega)
theorem fs_i : ∀ j, j < 4 → kx_ia (49 + 2 * j) 24 := by
  intro j hj
  match j, hj with
  | 0, _ => exact ia_49
  | 1, _ => exact ia_51
  | 2, _ => exact ia_53
  | 3, _ => exact ia_55
  | j + 4, hj => exact absurd hj (by omega)
theorem if_ten : ∀ j, j < 8 → kx_ia (4 + j) 9 := by
  intro j hj
  match j, hj with
  | 0, _ => exact ia_4
  | 1, _ => exact ia_5
  | 2, _ => exact ia_6
  | 3, _ => exact ia_7
  | 4, _ => exact ia_8
  | 5, _ => exact ia_9
  | 6, _ => exact ia_10
  | 7, _ => exact ia_11
  | j + 8, hj => exact absurd hj (by omega)
theorem if_yds : ∀ j, j < 4 → kx_ia (14 + j) 4 := by
  intro j hj
  match j, hj with
  | 0, _ => exact ia_14
  | 1, _ => exact ia_15
  | 2, _ => exact ia_16
  | 3, _ => exact ia_17
  | j + 4, hj => exact absurd hj (by omega)
theorem if_hrd : ∀ j, j < 4 → kx_ia (19 + j) 8 := by
  intro j hj
  match j, hj with
  | 0, _ => exact ia_19
  | 1, _ => exact ia_20
  | 2, _ => exact ia_21
  | 3, _ => exact ia_22
  | j + 4, hj => exact absurd hj (by omega)
theorem if_kten : ∀ j, j < 8 → kx_ia (26 + j) 9 := by
  intro j hj
  match j, hj with
  | 0, _ => exact ia_26
  | 1, _ => exact ia_27
  | 2, _ => exact ia_28
  | 3, _ => exact ia_29
  | 4, _ => exact ia_30
  | 5, _ => exact ia_31
  | 6, _ => exact ia_32
  | 7, _ => exact ia_33
  | j + 8, hj => exact absurd hj (by omega)
theorem if_kyds : ∀ j, j < 4 → kx_ia (36 + j) 4 := by
  intro j hj
  match j, hj with
  | 0, _ => exact ia_36
  | 1, _ => exact ia_37
  | 2, _ => exact ia_38
  | 3, _ => exact ia_39
  | j + 4, hj => exact absurd hj (by omega)
theorem if_khrd : ∀ j, j < 4 → kx_ia (41 + j) 8 := by
  intro j hj
  match j, hj with
  | 0, _ => exact ia_41
  | 1, _ => exact ia_42
  | 2, _ => exact ia_43
  | 3, _ => exact ia_44
  | j + 4, hj => exact absurd hj (by omega)
theorem if_spun : ∀ j, j < 32 → kx_ia (66 + j) 4 := by
  intro j hj
  match j, hj with
  | 0, _ => exact ia_66
  | 1, _ => exact ia_67
  | 2, _ => exact ia_68
  | 3, _ => exact ia_69
  | 4, _ => exact ia_70
  | 5, _ => exact ia_71
  | 6, _ => exact ia_72
  | 7, _ => exact ia_73
  | 8, _ => exact ia_74
  | 9, _ => exact ia_75
  | 10, _ => exact ia_76
  | 11, _ => exact ia_77
  | 12, _ => exact ia_78
  | 13, _ => exact ia_79
  | 14, _ => exact ia_80
  | 15, _ => exact ia_81
  | 16, _ => exact ia_82
  | 17, _ => exact ia_83
  | 18, _ => exact ia_84
  | 19, _ => exact ia_85
  | 20, _ => exact ia_86
  | 21, _ => exact ia_87
  | 22, _ => exact ia_88
  | 23, _ => exact ia_89
  | 24, _ => exact ia_90
  | 25, _ => exact ia_91
  | 26, _ => exact ia_92
  | 27, _ => exact ia_93
  | 28, _ => exact ia_94
  | 29, _ => exact ia_95
  | 30, _ => exact ia_96
  | 31, _ => exact ia_97
  | j + 32, hj => exact absurd hj (by omega)
theorem if_hope : ∀ j, j < 9 → kx_ia (100 + j) 4 := by
  intro j hj
  match j, hj with
  | 0, _ => exact ia_100
  | 1, _ => exact ia_101
  | 2, _ => exact ia_102
  | 3, _ => exact ia_103
  | 4, _ => exact ia_104
  | 5, _ => exact ia_105
  | 6, _ => exact ia_106
  | 7, _ => exact ia_107
  | 8, _ => exact ia_108
  | j + 9, hj => exact absurd hj (by omega)
theorem if_vers : ∀ j, j < 4 → kx_ia (117 + j) 9 := by
  intro j hj
  match j, hj with
  | 0, _ => exact ia_117
  | 1, _ => exact ia_118
  | 2, _ => exact ia_119
  | 3, _ => exact ia_120
  | j + 4, hj => exact absurd hj (by omega)
theorem cs_L_15 : kx_CV RL 15 yX8_type cX8_type 5 (some .int) 2 8 := ⟨kx_t1 337 (by decide +kernel) rfl, kx_t1 338 (by decide +kernel) rfl, kx_t1 339 (by decide +kernel) rfl, kx_t1 1 (by decide +kernel) rfl, kx_t1 340 (by decide +kernel) rfl, ⟨by decide +kernel, by decide +kernel, by decide +kernel⟩, by decide, ⟨_, rfl, by decide +kernel⟩⟩
theorem cs_X8_75 : kx_CS RX8 75 yX8_isWithin cX8_isWithin 3 (some .boolean) 3 := ⟨kx_t1 341 (by decide +kernel) rfl, kx_t1 342 (by decide +kernel) rfl, kx_t1 1 (by decide +kernel) rfl, kx_t1 343 (by decide +kernel) rfl, ⟨by decide +kernel, by decide +kernel, by decide +kernel⟩, by decide⟩
theorem cs_X8_79 : kx_CS RX8 79 yX8_byteOf cX8_byteOf 3 (some .int) 2 := ⟨kx_t1 344 (by decide +kernel) rfl, kx_t1 345 (by decide +kernel) rfl, kx_t1 1 (by decide +kernel) rfl, kx_t1 346 (by decide +kernel) rfl, ⟨by decide +kernel, by decide +kernel, by decide +kernel⟩, by decide⟩
theorem cs_X8_87 : kx_CV RX8 87 yX7_append cX7_append 2 none 1 7 := ⟨kx_t1 347 (by decide +kernel) rfl, kx_t1 348 (by decide +kernel) rfl, kx_t1 349 (by decide +kernel) rfl, kx_t1 3 (by decide +kernel) rfl, kx_t1 350 (by decide +kernel) rfl, ⟨by decide +kernel, by decide +kernel, by decide +kernel⟩, by decide, ⟨_, rfl, by decide +kernel⟩⟩
theorem cs_L_20 : kx_CV RL 20 yX8_tale cX8_tale 2 (some .int) 0 8 := ⟨kx_t1 351 (by decide +kernel) rfl, kx_t1 352 (by decide +kernel) rfl, kx_t1 353 (by decide +kernel) rfl, kx_t1 1 (by decide +kernel) rfl, kx_t1 354 (by decide +kernel) rfl, ⟨by decide +kernel, by decide +kernel, by decide +kernel⟩, by decide, ⟨_, rfl, by decide +kernel⟩⟩
theorem cs_X8_91 : kx_CV RX8 91 yX7_parseInto cX7_parseInto 4 (some .int) 1 7 := ⟨kx_t1 355 (by decide +kernel) rfl, kx_t1 356 (by decide +kernel) rfl, kx_t1 357 (by decide +kernel) rfl, kx_t1 3 (by decide +kernel) rfl, kx_t1 358 (by decide +kernel) rfl, ⟨by decide +kernel, by decide +kernel, by decide +kernel⟩, by decide, ⟨_, rfl, by decide +kernel⟩⟩
theorem cs_X7_19 : kx_CN RX7 19 yX8_isWithin cX8_isWithin 3 (some .boolean) 3 := ⟨by decide +kernel, kx_t1 342 (by decide +kernel) rfl, kx_t1 1 (by decide +kernel) rfl, kx_t1 343 (by decide +kernel) rfl, ⟨by decide +kernel, by decide +kernel, by decide +kernel⟩, by decide⟩
theorem cs_X8_98 : kx_CV RX8 98 yX2_addTale cX2_addTale 3 (some .int) 2 2 := ⟨kx_t1 360 (by decide +kernel) rfl, kx_t1 361 (by decide +kernel) rfl, kx_t1 362 (by decide +kernel) rfl, kx_t1 2 (by decide +kernel) rfl, kx_t1 363 (by decide +kernel) rfl, ⟨by decide +kernel, by decide +kernel, by decide +kernel⟩, by decide, ⟨_, rfl, by decide +kernel⟩⟩
theorem ac_X2_53 : kx_AC RX2 53 := ⟨kx_t1 364 (by decide +kernel) rfl, kx_t1 366 (by decide +kernel) rfl, kx_t1 365 (by decide +kernel) rfl, kx_t1 11 (by decide +kernel) rfl⟩
theorem cs_L_25 : kx_CV RL 25 yX8_change cX8_change 5 (some .int) 3 8 := ⟨kx_t1 367 (by decide +kernel) rfl, kx_t1 368 (by decide +kernel) rfl, kx_t1 369 (by decide +kernel) rfl, kx_t1 1 (by decide +kernel) rfl, kx_t1 370 (by decide +kernel) rfl, ⟨by decide +kernel, by decide +kernel, by decide +kernel⟩, by decide, ⟨_, rfl, by decide +kernel⟩⟩
theorem cs_X8_102 : kx_CV RX8 102 yX2_hasSentence cX2_hasSentence 3 (some .boolean) 2 2 := ⟨kx_t1 371 (by decide +kernel) rfl, kx_t1 372 (by decide +kernel) rfl, kx_t1 373 (by decide +kernel) rfl, kx_t1 2 (by decide +kernel) rfl, kx_t1 374 (by decide +kernel) rfl, ⟨by decide +kernel, by decide +kernel, by decide +kernel⟩, by decide, ⟨_, rfl, by decide +kernel⟩⟩
theorem cs_X2_43 : kx_CV RX2 43 yX2_hasTale cX2_hasTale 2 (some .boolean) 1 2 := ⟨kx_t1 375 (by decide +kernel) rfl, kx_t1 376 (by decide +kernel) rfl, kx_t1 377 (by decide +kernel) rfl, kx_t1 2 (by decide +kernel) rfl, kx_t1 378 (by decide +kernel) rfl, ⟨by decide +kernel, by decide +kernel, by decide +kernel⟩, by decide, ⟨_, rfl, by decide +kernel⟩⟩
theorem cs_X2_39 : kx_CN RX2 39 yX8_isWithin cX8_isWithin 3 (some .boolean) 3 := ⟨by decide +kernel, kx_t1 342 (by decide +kernel) rfl, kx_t1 1 (by decide +kernel) rfl, kx_t1 343 (by decide +kernel) rfl, ⟨by decide +kernel, by decide +kernel, by decide +kernel⟩, by decide⟩
theorem cs_L_30 : kx_CV RL 30 yX8_teller cX8_teller 2 (some .int) 1 8 := ⟨kx_t1 380 (by decide +kernel) rfl, kx_t1 381 (by decide +kernel) rfl, kx_t1 382 (by decide +kernel) rfl, kx_t1 1 (by decide +kernel) rfl, kx_t1 383 (by decide +kernel) rfl, ⟨by decide +kernel, by decide +kernel, by decide +kernel⟩, by decide, ⟨_, rfl, by decide +kernel⟩⟩
theorem cs_L_35 : kx_CV RL 35 yX8_spinner cX8_spinner 1 (some .int) 0 8 := ⟨kx_t1 384 (by decide +kernel) rfl, kx_t1 385 (by decide +kernel) rfl, kx_t1 386 (by decide +kernel) rfl, kx_t1 1 (by decide +kernel) rfl, kx_t1 387 (by decide +kernel) rfl, ⟨by decide +kernel, by decide +kernel, by decide +kernel⟩, by decide, ⟨_, rfl, by decide +kernel⟩⟩
theorem cs_L_39 : kx_CV RL 39 yX8_memory cX8_memory 3 (some .int) 1 8 := ⟨kx_t1 388 (by decide +kernel) rfl, kx_t1 389 (by decide +kernel) rfl, kx_t1 390 (by decide +kernel) rfl, kx_t1 1 (by decide +kernel) rfl, kx_t1 391 (by decide +kernel) rfl, ⟨by decide +kernel, by decide +kernel, by decide +kernel⟩, by decide, ⟨_, rfl, by decide +kernel⟩⟩
theorem cs_L_43 : kx_CV RL 43 yX8_told cX8_told 3 (some .int) 2 8 := ⟨kx_t1 392 (by decide +kernel) rfl, kx_t1 393 (by decide +kernel) rfl, kx_t1 394 (by decide +kernel) rfl, kx_t1 1 (by decide +kernel) rfl, kx_t1 395 (by decide +kernel) rfl, ⟨by decide +kernel, by decide +kernel, by decide +kernel⟩, by decide, ⟨_, rfl, by decide +kernel⟩⟩
theorem cs_X8_125 : kx_CV RX8 125 yX2_hasTale cX2_hasTale 2 (some .boolean) 1 2 := ⟨kx_t1 396 (by decide +kernel) rfl, kx_t1 376 (by decide +kernel) rfl, kx_t1 377 (by decide +kernel) rfl, kx_t1 2 (by decide +kernel) rfl, kx_t1 378 (by decide +kernel) rfl, ⟨by decide +kernel, by decide +kernel, by decide +kernel⟩, by decide, ⟨_, rfl, by decide +kernel⟩⟩
theorem cs_L_48 : kx_CV RL 48 yX8_tells cX8_tells 4 (some .int) 3 8 := ⟨kx_t1 397 (by decide +kernel) rfl, kx_t1 398 (by decide +kernel) rfl, kx_t1 399 (by decide +kernel) rfl, kx_t1 1 (by decide +kernel) rfl, kx_t1 400 (by decide +kernel) rfl, ⟨by decide +kernel, by decide +kernel, by decide +kernel⟩, by decide, ⟨_, rfl, by decide +kernel⟩⟩
theorem cs_X8_132 : kx_CV RX8 132 yX2_hasTeller cX2_hasTeller 2 (some .boolean) 1 2 := ⟨kx_t1 401 (by decide +kernel) rfl, kx_t1 402 (by decide +kernel) rfl, kx_t1 403 (by decide +kernel) rfl, kx_t1 2 (by decide +kernel) rfl, kx_t1 404 (by decide +kernel) rfl, ⟨by decide +kernel, by decide +kernel, by decide +kernel⟩, by decide, ⟨_, rfl, by decide +kernel⟩⟩
theorem cs_X8_135 : kx_CV RX8 135 yX2_tensionBy cX2_tensionBy 5 (some .int) 3 2 := ⟨kx_t1 405 (by decide +kernel) rfl, kx_t1 406 (by decide +kernel) rfl, kx_t1 407 (by decide +kernel) rfl, kx_t1 2 (by decide +kernel) rfl, kx_t1 408 (by decide +kernel) rfl, ⟨by decide +kernel, by decide +kernel, by decide +kernel⟩, by decide, ⟨_, rfl, by decide +kernel⟩⟩
theorem cs_X2_59 : kx_CN RX2 59 yX8_asToldBy cX8_asToldBy 2 (some .int) 2 := ⟨by decide +kernel, kx_t1 410 (by decide +kernel) rfl, kx_t1 1 (by decide +kernel) rfl, kx_t1 411 (by decide +kernel) rfl, ⟨by decide +kernel, by decide +kernel, by decide +kernel⟩, by decide⟩
theorem cs_X8_279 : kx_CS RX8 279 yJ9_min_7cf53 cJ9_min_7cf53 2 (some .int) 2 := ⟨kx_t1 412 (by decide +kernel) rfl, kx_t1 413 (by decide +kernel) rfl, kx_t1 12 (by decide +kernel) rfl, kx_t1 414 (by decide +kernel) rfl, ⟨by decide +kernel, by decide +kernel, by decide +kernel⟩, by decide⟩
theorem cs_X8_284 : kx_CS RX8 284 yJ9_max_7cf53 cJ9_max_7cf53 2 (some .int) 2 := ⟨kx_t1 415 (by decide +kernel) rfl, kx_t1 416 (by decide +kernel) rfl, kx_t1 12 (by decide +kernel) rfl, kx_t1 417 (by decide +kernel) rfl, ⟨by decide +kernel, by decide +kernel, by decide +kernel⟩, by decide⟩
theorem cs_L_52 : kx_CV RL 52 yX8_yards cX8_yards 3 (some .int) 2 8 := ⟨kx_t1 418 (by decide +kernel) rfl, kx_t1 419 (by decide +kernel) rfl, kx_t1 420 (by decide +kernel) rfl, kx_t1 1 (by decide +kernel) rfl, kx_t1 421 (by decide +kernel) rfl, ⟨by decide +kernel, by decide +kernel, by decide +kernel⟩, by decide, ⟨_, rfl, by decide +kernel⟩⟩
theorem cs_X8_139 : kx_CV RX8 139 yX2_hasSpinner cX2_hasSpinner 2 (some .boolean) 1 2 := ⟨kx_t1 422 (by decide +kernel) rfl, kx_t1 423 (by decide +kernel) rfl, kx_t1 424 (by decide +kernel) rfl, kx_t1 2 (by decide +kernel) rfl, kx_t1 425 (by decide +kernel) rfl, ⟨by decide +kernel, by decide +kernel, by decide +kernel⟩, by decide, ⟨_, rfl, by decide +kernel⟩⟩
theorem cs_X8_142 : kx_CS RX8 142 yX8_isSort cX8_isSort 1 (some .boolean) 1 := ⟨kx_t1 426 (by decide +kernel) rfl, kx_t1 427 (by decide +kernel) rfl, kx_t1 1 (by decide +kernel) rfl, kx_t1 428 (by decide +kernel) rfl, ⟨by decide +kernel, by decide +kernel, by decide +kernel⟩, by decide⟩
theorem cs_L_56 : kx_CV RL 56 yX8_use cX8_use 4 (some .int) 3 8 := ⟨kx_t1 429 (by decide +kernel) rfl, kx_t1 430 (by decide +kernel) rfl, kx_t1 431 (by decide +kernel) rfl, kx_t1 1 (by decide +kernel) rfl, kx_t1 432 (by decide +kernel) rfl, ⟨by decide +kernel, by decide +kernel, by decide +kernel⟩, by decide, ⟨_, rfl, by decide +kernel⟩⟩
theorem cs_L_60 : kx_CV RL 60 yX8_mind cX8_mind 4 (some .int) 1 8 := ⟨kx_t1 433 (by decide +kernel) rfl, kx_t1 434 (by decide +kernel) rfl, kx_t1 435 (by decide +kernel) rfl, kx_t1 1 (by decide +kernel) rfl, kx_t1 436 (by decide +kernel) rfl, ⟨by decide +kernel, by decide +kernel, by decide +kernel⟩, by decide, ⟨_, rfl, by decide +kernel⟩⟩
theorem cs_X8_151 : kx_CV RX8 151 yX2_isInMind cX2_isInMind 4 (some .boolean) 3 2 := ⟨kx_t1 437 (by decide +kernel) rfl, kx_t1 438 (by decide +kernel) rfl, kx_t1 439 (by decide +kernel) rfl, kx_t1 2 (by decide +kernel) rfl, kx_t1 440 (by decide +kernel) rfl, ⟨by decide +kernel, by decide +kernel, by decide +kernel⟩, by decide, ⟨_, rfl, by decide +kernel⟩⟩
theorem cs_X2_63 : kx_CN RX2 63 yX8_isRemembered cX8_isRemembered 3 (some .boolean) 3 := ⟨by decide +kernel, kx_t1 442 (by decide +kernel) rfl, kx_t1 1 (by decide +kernel) rfl, kx_t1 443 (by decide +kernel) rfl, ⟨by decide +kernel, by decide +kernel, by decide +kernel⟩, by decide⟩
theorem cs_L_64 : kx_CV RL 64 yX8_count cX8_count 2 (some .int) 1 8 := ⟨kx_t1 444 (by decide +kernel) rfl, kx_t1 445 (by decide +kernel) rfl, kx_t1 446 (by decide +kernel) rfl, kx_t1 1 (by decide +kernel) rfl, kx_t1 447 (by decide +kernel) rfl, ⟨by decide +kernel, by decide +kernel, by decide +kernel⟩, by decide, ⟨_, rfl, by decide +kernel⟩⟩
theorem cs_L_68 : kx_CV RL 68 yX8_evening cX8_evening 5 (some .int) 4 8 := ⟨kx_t1 448 (by decide +kernel) rfl, kx_t1 449 (by decide +kernel) rfl, kx_t1 450 (by decide +kernel) rfl, kx_t1 1 (by decide +kernel) rfl, kx_t1 451 (by decide +kernel) rfl, ⟨by decide +kernel, by decide +kernel, by decide +kernel⟩, by decide, ⟨_, rfl, by decide +kernel⟩⟩
theorem cs_X8_160 : kx_CV RX8 160 yX2_hasAllOf cX2_hasAllOf 2 (some .boolean) 1 2 := ⟨kx_t1 452 (by decide +kernel) rfl, kx_t1 453 (by decide +kernel) rfl, kx_t1 454 (by decide +kernel) rfl, kx_t1 2 (by decide +kernel) rfl, kx_t1 455 (by decide +kernel) rfl, ⟨by decide +kernel, by decide +kernel, by decide +kernel⟩, by decide, ⟨_, rfl, by decide +kernel⟩⟩
theorem cs_X8_163 : kx_CV RX8 163 yX2_spend cX2_spend 9 (some .int) 4 2 := ⟨kx_t1 456 (by decide +kernel) rfl, kx_t1 457 (by decide +kernel) rfl, kx_t1 458 (by decide +kernel) rfl, kx_t1 2 (by decide +kernel) rfl, kx_t1 459 (by decide +kernel) rfl, ⟨by decide +kernel, by decide +kernel, by decide +kernel⟩, by decide, ⟨_, rfl, by decide +kernel⟩⟩
theorem cs_X2_72 : kx_CS RX2 72 yJ9_min_7cf53 cJ9_min_7cf53 2 (some .int) 2 := ⟨kx_t1 460 (by decide +kernel) rfl, kx_t1 413 (by decide +kernel) rfl, kx_t1 12 (by decide +kernel) rfl, kx_t1 414 (by decide +kernel) rfl, ⟨by decide +kernel, by decide +kernel, by decide +kernel⟩, by decide⟩
theorem cs_X2_83 : kx_CV RX2 83 yX2_isInMind cX2_isInMind 4 (some .boolean) 3 2 := ⟨kx_t1 461 (by decide +kernel) rfl, kx_t1 438 (by decide +kernel) rfl, kx_t1 439 (by decide +kernel) rfl, kx_t1 2 (by decide +kernel) rfl, kx_t1 440 (by decide +kernel) rfl, ⟨by decide +kernel, by decide +kernel, by decide +kernel⟩, by decide, ⟨_, rfl, by decide +kernel⟩⟩
theorem cs_X2_86 : kx_CV RX2 86 yX2_spin cX2_spin 9 none 6 2 := ⟨kx_t1 462 (by decide +kernel) rfl, kx_t1 463 (by decide +kernel) rfl, kx_t1 464 (by decide +kernel) rfl, kx_t1 2 (by decide +kernel) rfl, kx_t1 465 (by decide +kernel) rfl, ⟨by decide +kernel, by decide +kernel, by decide +kernel⟩, by decide, ⟨_, rfl, by decide +kernel⟩⟩
theorem cs_X2_100 : kx_CV RX2 100 yX2_tensionBy cX2_tensionBy 5 (some .int) 3 2 := ⟨kx_t1 466 (by decide +kernel) rfl, kx_t1 406 (by decide +kernel) rfl, kx_t1 407 (by decide +kernel) rfl, kx_t1 2 (by decide +kernel) rfl, kx_t1 408 (by decide +kernel) rfl, ⟨by decide +kernel, by decide +kernel, by decide +kernel⟩, by decide, ⟨_, rfl, by decide +kernel⟩⟩
theorem cs_X2_104 : kx_CN RX2 104 yX8_sortOf cX8_sortOf 1 (some .int) 1 := ⟨by decide +kernel, kx_t1 468 (by decide +kernel) rfl, kx_t1 1 (by decide +kernel) rfl, kx_t1 469 (by decide +kernel) rfl, ⟨by decide +kernel, by decide +kernel, by decide +kernel⟩, by decide⟩
theorem cs_X2_107 : kx_CN RX2 107 yX8_duller cX8_duller 1 (some .int) 1 := ⟨by decide +kernel, kx_t1 471 (by decide +kernel) rfl, kx_t1 1 (by decide +kernel) rfl, kx_t1 472 (by decide +kernel) rfl, ⟨by decide +kernel, by decide +kernel, by decide +kernel⟩, by decide⟩
theorem cs_X2_90 : kx_CV RX2 90 yX2_keepInMind cX2_keepInMind 4 none 2 2 := ⟨kx_t1 473 (by decide +kernel) rfl, kx_t1 475 (by decide +kernel) rfl, kx_t0 0 (by decide +kernel) rfl, kx_t1 2 (by decide +kernel) rfl, kx_t1 476 (by decide +kernel) rfl, ⟨by decide +kernel, by decide +kernel, by decide +kernel⟩, by decide, ⟨_, rfl, by decide +kernel⟩⟩
theorem cs_X2_94 : kx_CS RX2 94 yJ6_bitCount_0f7a4 cJ6_bitCount_0f7a4 1 (some .int) 1 := ⟨kx_t1 477 (by decide +kernel) rfl, kx_t1 478 (by decide +kernel) rfl, kx_t1 13 (by decide +kernel) rfl, kx_t1 479 (by decide +kernel) rfl, ⟨by decide +kernel, by decide +kernel, by decide +kernel⟩, by decide⟩
theorem cs_L_73 : kx_CV RL 73 yX8_store cX8_store 4 (some .int) 3 8 := ⟨kx_t1 483 (by decide +kernel) rfl, kx_t1 484 (by decide +kernel) rfl, kx_t1 485 (by decide +kernel) rfl, kx_t1 1 (by decide +kernel) rfl, kx_t1 486 (by decide +kernel) rfl, ⟨by decide +kernel, by decide +kernel, by decide +kernel⟩, by decide, ⟨_, rfl, by decide +kernel⟩⟩
theorem cs_X8_167 : kx_CV RX8 167 yX6_run cX6_run 5 none 3 6 := ⟨kx_t1 487 (by decide +kernel) rfl, kx_t1 488 (by decide +kernel) rfl, kx_t1 489 (by decide +kernel) rfl, kx_t1 4 (by decide +kernel) rfl, kx_t1 490 (by decide +kernel) rfl, ⟨by decide +kernel, by decide +kernel, by decide +kernel⟩, by decide, ⟨_, rfl, by decide +kernel⟩⟩
theorem cs_X6_54 : kx_CV RX6 54 yX6_weigh cX6_weigh 5 none 2 6 := ⟨kx_t1 491 (by decide +kernel) rfl, kx_t1 493 (by decide +kernel) rfl, kx_t0 1 (by decide +kernel) rfl, kx_t1 4 (by decide +kernel) rfl, kx_t1 494 (by decide +kernel) rfl, ⟨by decide +kernel, by decide +kernel, by decide +kernel⟩, by decide, ⟨_, rfl, by decide +kernel⟩⟩
theorem cs_X6_74 : kx_CN RX6 74 yX8_sortOf cX8_sortOf 1 (some .int) 1 := ⟨by decide +kernel, kx_t1 468 (by decide +kernel) rfl, kx_t1 1 (by decide +kernel) rfl, kx_t1 469 (by decide +kernel) rfl, ⟨by decide +kernel, by decide +kernel, by decide +kernel⟩, by decide⟩
theorem cs_X6_78 : kx_CN RX6 78 yX8_duller cX8_duller 1 (some .int) 1 := ⟨by decide +kernel, kx_t1 471 (by decide +kernel) rfl, kx_t1 1 (by decide +kernel) rfl, kx_t1 472 (by decide +kernel) rfl, ⟨by decide +kernel, by decide +kernel, by decide +kernel⟩, by decide⟩
theorem cs_X6_58 : kx_CS RX6 58 yJ9_max_7cf53 cJ9_max_7cf53 2 (some .int) 2 := ⟨kx_t1 497 (by decide +kernel) rfl, kx_t1 416 (by decide +kernel) rfl, kx_t1 12 (by decide +kernel) rfl, kx_t1 417 (by decide +kernel) rfl, ⟨by decide +kernel, by decide +kernel, by decide +kernel⟩, by decide⟩
theorem cs_X6_64 : kx_CV RX6 64 yX6_search cX6_search 7 none 2 6 := ⟨kx_t1 498 (by decide +kernel) rfl, kx_t1 500 (by decide +kernel) rfl, kx_t0 2 (by decide +kernel) rfl, kx_t1 4 (by decide +kernel) rfl, kx_t1 501 (by decide +kernel) rfl, ⟨by decide +kernel, by decide +kernel, by decide +kernel⟩, by decide, ⟨_, rfl, by decide +kernel⟩⟩
theorem ac_X6_81 : kx_AC RX6 81 := ⟨kx_t1 502 (by decide +kernel) rfl, kx_t1 366 (by decide +kernel) rfl, kx_t1 365 (by decide +kernel) rfl, kx_t1 11 (by decide +kernel) rfl⟩
theorem cs_X6_87 : kx_CN RX6 87 yX8_isRemembered cX8_isRemembered 3 (some .boolean) 3 := ⟨by decide +kernel, kx_t1 442 (by decide +kernel) rfl, kx_t1 1 (by decide +kernel) rfl, kx_t1 443 (by decide +kernel) rfl, ⟨by decide +kernel, by decide +kernel, by decide +kernel⟩, by decide⟩
theorem cs_L_77 : kx_CV RL 77 yX8_play cX8_play 6 (some .int) 5 8 := ⟨kx_t1 504 (by decide +kernel) rfl, kx_t1 505 (by decide +kernel) rfl, kx_t1 506 (by decide +kernel) rfl, kx_t1 1 (by decide +kernel) rfl, kx_t1 507 (by decide +kernel) rfl, ⟨by decide +kernel, by decide +kernel, by decide +kernel⟩, by decide, ⟨_, rfl, by decide +kernel⟩⟩
theorem cs_X8_178 : kx_CV RX8 178 yX1_begin cX1_begin 4 none 3 1 := ⟨kx_t1 509 (by decide +kernel) rfl, kx_t1 510 (by decide +kernel) rfl, kx_t1 511 (by decide +kernel) rfl, kx_t1 8 (by decide +kernel) rfl, kx_t1 512 (by decide +kernel) rfl, ⟨by decide +kernel, by decide +kernel, by decide +kernel⟩, by decide, ⟨_, rfl, by decide +kernel⟩⟩
theorem cs_X1_30 : kx_CN RX1 30 yX8_retell cX8_retell 5 none 4 := ⟨by decide +kernel, kx_t1 514 (by decide +kernel) rfl, kx_t1 1 (by decide +kernel) rfl, kx_t1 515 (by decide +kernel) rfl, ⟨by decide +kernel, by decide +kernel, by decide +kernel⟩, by decide⟩
theorem cs_X8_287 : kx_CS RX8 287 yX8_asToldBy cX8_asToldBy 2 (some .int) 2 := ⟨kx_t1 516 (by decide +kernel) rfl, kx_t1 410 (by decide +kernel) rfl, kx_t1 1 (by decide +kernel) rfl, kx_t1 411 (by decide +kernel) rfl, ⟨by decide +kernel, by decide +kernel, by decide +kernel⟩, by decide⟩
theorem cs_X8_181 : kx_CV RX8 181 yX1_tellerPoints cX1_tellerPoints 4 (some .int) 2 1 := ⟨kx_t1 517 (by decide +kernel) rfl, kx_t1 518 (by decide +kernel) rfl, kx_t1 519 (by decide +kernel) rfl, kx_t1 8 (by decide +kernel) rfl, kx_t1 520 (by decide +kernel) rfl, ⟨by decide +kernel, by decide +kernel, by decide +kernel⟩, by decide, ⟨_, rfl, by decide +kernel⟩⟩
theorem cs_X1_34 : kx_CV RX1 34 yX1_heardUntilGone cX1_heardUntilGone 3 (some .int) 1 1 := ⟨kx_t1 521 (by decide +kernel) rfl, kx_t1 523 (by decide +kernel) rfl, kx_t0 3 (by decide +kernel) rfl, kx_t1 8 (by decide +kernel) rfl, kx_t1 524 (by decide +kernel) rfl, ⟨by decide +kernel, by decide +kernel, by decide +kernel⟩, by decide, ⟨_, rfl, by decide +kernel⟩⟩
theorem cs_X8_185 : kx_CV RX8 185 yX1_spinnerPoints cX1_spinnerPoints 6 (some .int) 2 1 := ⟨kx_t1 525 (by decide +kernel) rfl, kx_t1 526 (by decide +kernel) rfl, kx_t1 527 (by decide +kernel) rfl, kx_t1 8 (by decide +kernel) rfl, kx_t1 528 (by decide +kernel) rfl, ⟨by decide +kernel, by decide +kernel, by decide +kernel⟩, by decide, ⟨_, rfl, by decide +kernel⟩⟩
theorem cs_X1_38 : kx_CS RX1 38 yJ9_min_7cf53 cJ9_min_7cf53 2 (some .int) 2 := ⟨kx_t1 529 (by decide +kernel) rfl, kx_t1 413 (by decide +kernel) rfl, kx_t1 12 (by decide +kernel) rfl, kx_t1 414 (by decide +kernel) rfl, ⟨by decide +kernel, by decide +kernel, by decide +kernel⟩, by decide⟩
theorem cs_X1_44 : kx_CN RX1 44 yX8_sortOf cX8_sortOf 1 (some .int) 1 := ⟨by decide +kernel, kx_t1 468 (by decide +kernel) rfl, kx_t1 1 (by decide +kernel) rfl, kx_t1 469 (by decide +kernel) rfl, ⟨by decide +kernel, by decide +kernel, by decide +kernel⟩, by decide⟩
theorem cs_L_82 : kx_CV RL 82 yX8_rests cX8_rests 4 (some .int) 3 8 := ⟨kx_t1 531 (by decide +kernel) rfl, kx_t1 532 (by decide +kernel) rfl, kx_t1 533 (by decide +kernel) rfl, kx_t1 1 (by decide +kernel) rfl, kx_t1 534 (by decide +kernel) rfl, ⟨by decide +kernel, by decide +kernel, by decide +kernel⟩, by decide, ⟨_, rfl, by decide +kernel⟩⟩
theorem cs_X8_188 : kx_CV RX8 188 yX1_findRests cX1_findRests 3 none 0 1 := ⟨kx_t1 535 (by decide +kernel) rfl, kx_t1 536 (by decide +kernel) rfl, kx_t1 537 (by decide +kernel) rfl, kx_t1 8 (by decide +kernel) rfl, kx_t1 538 (by decide +kernel) rfl, ⟨by decide +kernel, by decide +kernel, by decide +kernel⟩, by decide, ⟨_, rfl, by decide +kernel⟩⟩
theorem cs_X1_53 : kx_CV RX1 53 yX1_tellerRests cX1_tellerRests 5 (some .boolean) 2 1 := ⟨kx_t1 539 (by decide +kernel) rfl, kx_t1 541 (by decide +kernel) rfl, kx_t0 4 (by decide +kernel) rfl, kx_t1 8 (by decide +kernel) rfl, kx_t1 542 (by decide +kernel) rfl, ⟨by decide +kernel, by decide +kernel, by decide +kernel⟩, by decide, ⟨_, rfl, by decide +kernel⟩⟩
theorem cs_X1_60 : kx_CV RX1 60 yX1_tellerPoints cX1_tellerPoints 4 (some .int) 2 1 := ⟨kx_t1 543 (by decide +kernel) rfl, kx_t1 518 (by decide +kernel) rfl, kx_t1 519 (by decide +kernel) rfl, kx_t1 8 (by decide +kernel) rfl, kx_t1 520 (by decide +kernel) rfl, ⟨by decide +kernel, by decide +kernel, by decide +kernel⟩, by decide, ⟨_, rfl, by decide +kernel⟩⟩
theorem cs_X1_57 : kx_CV RX1 57 yX1_spinnerRests cX1_spinnerRests 5 (some .boolean) 2 1 := ⟨kx_t1 544 (by decide +kernel) rfl, kx_t1 546 (by decide +kernel) rfl, kx_t0 5 (by decide +kernel) rfl, kx_t1 8 (by decide +kernel) rfl, kx_t1 547 (by decide +kernel) rfl, ⟨by decide +kernel, by decide +kernel, by decide +kernel⟩, by decide, ⟨_, rfl, by decide +kernel⟩⟩
theorem cs_X1_63 : kx_CV RX1 63 yX1_spinnerPoints cX1_spinnerPoints 6 (some .int) 2 1 := ⟨kx_t1 548 (by decide +kernel) rfl, kx_t1 526 (by decide +kernel) rfl, kx_t1 527 (by decide +kernel) rfl, kx_t1 8 (by decide +kernel) rfl, kx_t1 528 (by decide +kernel) rfl, ⟨by decide +kernel, by decide +kernel, by decide +kernel⟩, by decide, ⟨_, rfl, by decide +kernel⟩⟩
theorem cs_X8_197 : kx_CS RX8 197 yX8_firstOrCount cX8_firstOrCount 3 (some .int) 3 := ⟨kx_t1 549 (by decide +kernel) rfl, kx_t1 550 (by decide +kernel) rfl, kx_t1 1 (by decide +kernel) rfl, kx_t1 551 (by decide +kernel) rfl, ⟨by decide +kernel, by decide +kernel, by decide +kernel⟩, by decide⟩
theorem cs_L_86 : kx_CV RL 86 yX8_image cX8_image 1 (some .int) 0 8 := ⟨kx_t1 552 (by decide +kernel) rfl, kx_t1 553 (by decide +kernel) rfl, kx_t1 554 (by decide +kernel) rfl, kx_t1 1 (by decide +kernel) rfl, kx_t1 555 (by decide +kernel) rfl, ⟨by decide +kernel, by decide +kernel, by decide +kernel⟩, by decide, ⟨_, rfl, by decide +kernel⟩⟩
theorem cs_X8_200 : kx_CV RX8 200 yX2_becomeLike cX2_becomeLike 3 none 1 2 := ⟨kx_t1 556 (by decide +kernel) rfl, kx_t1 557 (by decide +kernel) rfl, kx_t1 558 (by decide +kernel) rfl, kx_t1 2 (by decide +kernel) rfl, kx_t1 559 (by decide +kernel) rfl, ⟨by decide +kernel, by decide +kernel, by decide +kernel⟩, by decide, ⟨_, rfl, by decide +kernel⟩⟩
theorem cs_L_90 : kx_CV RL 90 yX8_restore cX8_restore 1 (some .int) 0 8 := ⟨kx_t1 560 (by decide +kernel) rfl, kx_t1 561 (by decide +kernel) rfl, kx_t1 562 (by decide +kernel) rfl, kx_t1 1 (by decide +kernel) rfl, kx_t1 563 (by decide +kernel) rfl, ⟨by decide +kernel, by decide +kernel, by decide +kernel⟩, by decide, ⟨_, rfl, by decide +kernel⟩⟩
theorem cs_L_94 : kx_CV RL 94 yX8_coat cX8_coat 7 (some .int) 5 8 := ⟨kx_t1 564 (by decide +kernel) rfl, kx_t1 565 (by decide +kernel) rfl, kx_t1 566 (by decide +kernel) rfl, kx_t1 1 (by decide +kernel) rfl, kx_t1 567 (by decide +kernel) rfl, ⟨by decide +kernel, by decide +kernel, by decide +kernel⟩, by decide, ⟨_, rfl, by decide +kernel⟩⟩
theorem cs_X8_208 : kx_CS RX8 208 yX8_isSheetOfLane cX8_isSheetOfLane 2 (some .boolean) 2 := ⟨kx_t1 568 (by decide +kernel) rfl, kx_t1 569 (by decide +kernel) rfl, kx_t1 1 (by decide +kernel) rfl, kx_t1 570 (by decide +kernel) rfl, ⟨by decide +kernel, by decide +kernel, by decide +kernel⟩, by decide⟩
theorem cs_X8_260 : kx_CS RX8 260 yX8_isSheet cX8_isSheet 1 (some .boolean) 1 := ⟨kx_t1 571 (by decide +kernel) rfl, kx_t1 572 (by decide +kernel) rfl, kx_t1 1 (by decide +kernel) rfl, kx_t1 573 (by decide +kernel) rfl, ⟨by decide +kernel, by decide +kernel, by decide +kernel⟩, by decide⟩
theorem cs_X8_211 : kx_CV RX8 211 yX8_takeItems cX8_takeItems 8 (some .int) 5 8 := ⟨kx_t1 574 (by decide +kernel) rfl, kx_t1 576 (by decide +kernel) rfl, kx_t0 6 (by decide +kernel) rfl, kx_t1 1 (by decide +kernel) rfl, kx_t1 577 (by decide +kernel) rfl, ⟨by decide +kernel, by decide +kernel, by decide +kernel⟩, by decide, ⟨_, rfl, by decide +kernel⟩⟩
theorem cs_X8_245 : kx_CV RX8 245 yX5_refusal cX5_refusal 4 (some .int) 3 5 := ⟨kx_t1 578 (by decide +kernel) rfl, kx_t1 579 (by decide +kernel) rfl, kx_t1 580 (by decide +kernel) rfl, kx_t1 9 (by decide +kernel) rfl, kx_t1 581 (by decide +kernel) rfl, ⟨by decide +kernel, by decide +kernel, by decide +kernel⟩, by decide, ⟨_, rfl, by decide +kernel⟩⟩
theorem cs_X5_22 : kx_CV RX5 22 yX5_hasItems cX5_hasItems 3 (some .boolean) 2 5 := ⟨kx_t1 582 (by decide +kernel) rfl, kx_t1 583 (by decide +kernel) rfl, kx_t1 584 (by decide +kernel) rfl, kx_t1 9 (by decide +kernel) rfl, kx_t1 585 (by decide +kernel) rfl, ⟨by decide +kernel, by decide +kernel, by decide +kernel⟩, by decide, ⟨_, rfl, by decide +kernel⟩⟩
theorem cs_X8_215 : kx_CV RX8 215 yX0_run cX0_run 5 none 3 0 := ⟨kx_t1 586 (by decide +kernel) rfl, kx_t1 587 (by decide +kernel) rfl, kx_t1 588 (by decide +kernel) rfl, kx_t1 5 (by decide +kernel) rfl, kx_t1 589 (by decide +kernel) rfl, ⟨by decide +kernel, by decide +kernel, by decide +kernel⟩, by decide, ⟨_, rfl, by decide +kernel⟩⟩
theorem cs_X0_47 : kx_CV RX0 47 yX0_spinAll cX0_spinAll 8 none 3 0 := ⟨kx_t1 590 (by decide +kernel) rfl, kx_t1 592 (by decide +kernel) rfl, kx_t0 7 (by decide +kernel) rfl, kx_t1 5 (by decide +kernel) rfl, kx_t1 593 (by decide +kernel) rfl, ⟨by decide +kernel, by decide +kernel, by decide +kernel⟩, by decide, ⟨_, rfl, by decide +kernel⟩⟩
theorem cs_X0_62 : kx_CV RX0 62 yX2_isInMind cX2_isInMind 4 (some .boolean) 3 2 := ⟨kx_t1 594 (by decide +kernel) rfl, kx_t1 438 (by decide +kernel) rfl, kx_t1 439 (by decide +kernel) rfl, kx_t1 2 (by decide +kernel) rfl, kx_t1 440 (by decide +kernel) rfl, ⟨by decide +kernel, by decide +kernel, by decide +kernel⟩, by decide, ⟨_, rfl, by decide +kernel⟩⟩
theorem cs_X0_66 : kx_CS RX0 66 yX0_place cX0_place 2 (some .int) 2 := ⟨kx_t1 595 (by decide +kernel) rfl, kx_t1 596 (by decide +kernel) rfl, kx_t1 5 (by decide +kernel) rfl, kx_t1 597 (by decide +kernel) rfl, ⟨by decide +kernel, by decide +kernel, by decide +kernel⟩, by decide⟩
theorem cs_X0_73 : kx_CV RX0 73 yX2_spin cX2_spin 9 none 6 2 := ⟨kx_t1 598 (by decide +kernel) rfl, kx_t1 463 (by decide +kernel) rfl, kx_t1 464 (by decide +kernel) rfl, kx_t1 2 (by decide +kernel) rfl, kx_t1 465 (by decide +kernel) rfl, ⟨by decide +kernel, by decide +kernel, by decide +kernel⟩, by decide, ⟨_, rfl, by decide +kernel⟩⟩
theorem cs_X0_77 : kx_CV RX0 77 yX0_isUnlikeEarlier cX0_isUnlikeEarlier 4 (some .boolean) 2 0 := ⟨kx_t1 599 (by decide +kernel) rfl, kx_t1 601 (by decide +kernel) rfl, kx_t0 8 (by decide +kernel) rfl, kx_t1 5 (by decide +kernel) rfl, kx_t1 602 (by decide +kernel) rfl, ⟨by decide +kernel, by decide +kernel, by decide +kernel⟩, by decide, ⟨_, rfl, by decide +kernel⟩⟩
theorem cs_X0_81 : kx_CN RX0 81 yX8_areSame cX8_areSame 4 (some .boolean) 3 := ⟨by decide +kernel, kx_t1 604 (by decide +kernel) rfl, kx_t1 1 (by decide +kernel) rfl, kx_t1 605 (by decide +kernel) rfl, ⟨by decide +kernel, by decide +kernel, by decide +kernel⟩, by decide⟩
theorem cs_X0_51 : kx_CV RX0 51 yX0_addHope cX0_addHope 5 none 1 0 := ⟨kx_t1 606 (by decide +kernel) rfl, kx_t1 608 (by decide +kernel) rfl, kx_t0 9 (by decide +kernel) rfl, kx_t1 5 (by decide +kernel) rfl, kx_t1 609 (by decide +kernel) rfl, ⟨by decide +kernel, by decide +kernel, by decide +kernel⟩, by decide, ⟨_, rfl, by decide +kernel⟩⟩
theorem cs_X0_85 : kx_CS RX0 85 yJ9_max_7cf53 cJ9_max_7cf53 2 (some .int) 2 := ⟨kx_t1 610 (by decide +kernel) rfl, kx_t1 416 (by decide +kernel) rfl, kx_t1 12 (by decide +kernel) rfl, kx_t1 417 (by decide +kernel) rfl, ⟨by decide +kernel, by decide +kernel, by decide +kernel⟩, by decide⟩
theorem cs_X0_55 : kx_CV RX0 55 yX0_search cX0_search 4 none 2 0 := ⟨kx_t1 611 (by decide +kernel) rfl, kx_t1 613 (by decide +kernel) rfl, kx_t0 10 (by decide +kernel) rfl, kx_t1 5 (by decide +kernel) rfl, kx_t1 614 (by decide +kernel) rfl, ⟨by decide +kernel, by decide +kernel, by decide +kernel⟩, by decide, ⟨_, rfl, by decide +kernel⟩⟩
theorem cs_X0_90 : kx_CV RX0 90 yX0_isCovered cX0_isCovered 3 (some .boolean) 1 0 := ⟨kx_t1 615 (by decide +kernel) rfl, kx_t1 617 (by decide +kernel) rfl, kx_t0 11 (by decide +kernel) rfl, kx_t1 5 (by decide +kernel) rfl, kx_t1 618 (by decide +kernel) rfl, ⟨by decide +kernel, by decide +kernel, by decide +kernel⟩, by decide, ⟨_, rfl, by decide +kernel⟩⟩
theorem ac_X0_94 : kx_AC RX0 94 := ⟨kx_t1 619 (by decide +kernel) rfl, kx_t1 366 (by decide +kernel) rfl, kx_t1 365 (by decide +kernel) rfl, kx_t1 11 (by decide +kernel) rfl⟩
theorem cs_X0_100 : kx_CV RX0 100 yX0_take cX0_take 4 none 2 0 := ⟨kx_t1 620 (by decide +kernel) rfl, kx_t1 622 (by decide +kernel) rfl, kx_t0 12 (by decide +kernel) rfl, kx_t1 5 (by decide +kernel) rfl, kx_t1 623 (by decide +kernel) rfl, ⟨by decide +kernel, by decide +kernel, by decide +kernel⟩, by decide, ⟨_, rfl, by decide +kernel⟩⟩
theorem cs_X8_218 : kx_CV RX8 218 yX0_isFound cX0_isFound 1 (some .boolean) 0 0 := ⟨kx_t1 624 (by decide +kernel) rfl, kx_t1 625 (by decide +kernel) rfl, kx_t1 626 (by decide +kernel) rfl, kx_t1 5 (by decide +kernel) rfl, kx_t1 627 (by decide +kernel) rfl, ⟨by decide +kernel, by decide +kernel, by decide +kernel⟩, by decide, ⟨_, rfl, by decide +kernel⟩⟩
theorem cs_L_98 : kx_CV RL 98 yX8_read cX8_read 7 (some .int) 5 8 := ⟨kx_t1 628 (by decide +kernel) rfl, kx_t1 629 (by decide +kernel) rfl, kx_t1 630 (by decide +kernel) rfl, kx_t1 1 (by decide +kernel) rfl, kx_t1 631 (by decide +kernel) rfl, ⟨by decide +kernel, by decide +kernel, by decide +kernel⟩, by decide, ⟨_, rfl, by decide +kernel⟩⟩
theorem cs_X8_226 : kx_CV RX8 226 yX4_run cX4_run 6 none 3 4 := ⟨kx_t1 632 (by decide +kernel) rfl, kx_t1 633 (by decide +kernel) rfl, kx_t1 634 (by decide +kernel) rfl, kx_t1 6 (by decide +kernel) rfl, kx_t1 635 (by decide +kernel) rfl, ⟨by decide +kernel, by decide +kernel, by decide +kernel⟩, by decide, ⟨_, rfl, by decide +kernel⟩⟩
theorem cs_X4_24 : kx_CS RX4 24 yX4_sentencesOf cX4_sentencesOf 4 (some .int) 2 := ⟨kx_t1 636 (by decide +kernel) rfl, kx_t1 637 (by decide +kernel) rfl, kx_t1 6 (by decide +kernel) rfl, kx_t1 638 (by decide +kernel) rfl, ⟨by decide +kernel, by decide +kernel, by decide +kernel⟩, by decide⟩
theorem cs_X4_28 : kx_CV RX4 28 yX4_waysOn cX4_waysOn 8 (some .int) 5 4 := ⟨kx_t1 639 (by decide +kernel) rfl, kx_t1 641 (by decide +kernel) rfl, kx_t0 13 (by decide +kernel) rfl, kx_t1 6 (by decide +kernel) rfl, kx_t1 642 (by decide +kernel) rfl, ⟨by decide +kernel, by decide +kernel, by decide +kernel⟩, by decide, ⟨_, rfl, by decide +kernel⟩⟩
theorem cs_X4_45 : kx_CS RX4 45 yX4_fits cX4_fits 7 (some .boolean) 5 := ⟨kx_t1 643 (by decide +kernel) rfl, kx_t1 644 (by decide +kernel) rfl, kx_t1 6 (by decide +kernel) rfl, kx_t1 645 (by decide +kernel) rfl, ⟨by decide +kernel, by decide +kernel, by decide +kernel⟩, by decide⟩
theorem cs_X4_53 : kx_CN RX4 53 yX8_sortOf cX8_sortOf 1 (some .int) 1 := ⟨by decide +kernel, kx_t1 468 (by decide +kernel) rfl, kx_t1 1 (by decide +kernel) rfl, kx_t1 469 (by decide +kernel) rfl, ⟨by decide +kernel, by decide +kernel, by decide +kernel⟩, by decide⟩
theorem cs_X4_38 : kx_CV RX4 38 yX4_followFirst cX4_followFirst 7 none 3 4 := ⟨kx_t1 647 (by decide +kernel) rfl, kx_t1 649 (by decide +kernel) rfl, kx_t0 14 (by decide +kernel) rfl, kx_t1 6 (by decide +kernel) rfl, kx_t1 650 (by decide +kernel) rfl, ⟨by decide +kernel, by decide +kernel, by decide +kernel⟩, by decide, ⟨_, rfl, by decide +kernel⟩⟩
theorem cs_X4_57 : kx_CV RX4 57 yX4_firstOn cX4_firstOn 7 (some .int) 5 4 := ⟨kx_t1 651 (by decide +kernel) rfl, kx_t1 653 (by decide +kernel) rfl, kx_t0 15 (by decide +kernel) rfl, kx_t1 6 (by decide +kernel) rfl, kx_t1 654 (by decide +kernel) rfl, ⟨by decide +kernel, by decide +kernel, by decide +kernel⟩, by decide, ⟨_, rfl, by decide +kernel⟩⟩
theorem cs_L_102 : kx_CV RL 102 yX8_untangle cX8_untangle 11 (some .int) 5 8 := ⟨kx_t1 655 (by decide +kernel) rfl, kx_t1 656 (by decide +kernel) rfl, kx_t1 657 (by decide +kernel) rfl, kx_t1 1 (by decide +kernel) rfl, kx_t1 658 (by decide +kernel) rfl, ⟨by decide +kernel, by decide +kernel, by decide +kernel⟩, by decide, ⟨_, rfl, by decide +kernel⟩⟩
theorem cs_X8_238 : kx_CV RX8 238 yX8_areTangledTo cX8_areTangledTo 4 (some .boolean) 3 8 := ⟨kx_t1 659 (by decide +kernel) rfl, kx_t1 661 (by decide +kernel) rfl, kx_t0 16 (by decide +kernel) rfl, kx_t1 1 (by decide +kernel) rfl, kx_t1 662 (by decide +kernel) rfl, ⟨by decide +kernel, by decide +kernel, by decide +kernel⟩, by decide, ⟨_, rfl, by decide +kernel⟩⟩
theorem cs_X8_241 : kx_CV RX8 241 yX2_tangleInto cX2_tangleInto 6 (some .int) 3 2 := ⟨kx_t1 663 (by decide +kernel) rfl, kx_t1 664 (by decide +kernel) rfl, kx_t1 665 (by decide +kernel) rfl, kx_t1 2 (by decide +kernel) rfl, kx_t1 666 (by decide +kernel) rfl, ⟨by decide +kernel, by decide +kernel, by decide +kernel⟩, by decide, ⟨_, rfl, by decide +kernel⟩⟩
theorem cs_X8_290 : kx_CS RX8 290 yX8_areSame cX8_areSame 4 (some .boolean) 3 := ⟨kx_t1 667 (by decide +kernel) rfl, kx_t1 604 (by decide +kernel) rfl, kx_t1 1 (by decide +kernel) rfl, kx_t1 605 (by decide +kernel) rfl, ⟨by decide +kernel, by decide +kernel, by decide +kernel⟩, by decide⟩
theorem cs_L_106 : kx_CV RL 106 yX8_tangle cX8_tangle 9 (some .int) 5 8 := ⟨kx_t1 668 (by decide +kernel) rfl, kx_t1 669 (by decide +kernel) rfl, kx_t1 670 (by decide +kernel) rfl, kx_t1 1 (by decide +kernel) rfl, kx_t1 671 (by decide +kernel) rfl, ⟨by decide +kernel, by decide +kernel, by decide +kernel⟩, by decide, ⟨_, rfl, by decide +kernel⟩⟩
theorem cs_X8_248 : kx_CV RX8 248 yX5_put cX5_put 4 none 2 5 := ⟨kx_t1 672 (by decide +kernel) rfl, kx_t1 673 (by decide +kernel) rfl, kx_t1 674 (by decide +kernel) rfl, kx_t1 9 (by decide +kernel) rfl, kx_t1 675 (by decide +kernel) rfl, ⟨by decide +kernel, by decide +kernel, by decide +kernel⟩, by decide, ⟨_, rfl, by decide +kernel⟩⟩
theorem cs_L_110 : kx_CV RL 110 yX8_passed cX8_passed 9 (some .int) 7 8 := ⟨kx_t1 676 (by decide +kernel) rfl, kx_t1 677 (by decide +kernel) rfl, kx_t1 678 (by decide +kernel) rfl, kx_t1 1 (by decide +kernel) rfl, kx_t1 679 (by decide +kernel) rfl, ⟨by decide +kernel, by decide +kernel, by decide +kernel⟩, by decide, ⟨_, rfl, by decide +kernel⟩⟩
theorem cs_X8_252 : kx_CV RX8 252 yX3_run cX3_run 6 none 5 3 := ⟨kx_t1 680 (by decide +kernel) rfl, kx_t1 681 (by decide +kernel) rfl, kx_t1 682 (by decide +kernel) rfl, kx_t1 7 (by decide +kernel) rfl, kx_t1 683 (by decide +kernel) rfl, ⟨by decide +kernel, by decide +kernel, by decide +kernel⟩, by decide, ⟨_, rfl, by decide +kernel⟩⟩
theorem ac_X3_49 : kx_AC RX3 49 := ⟨kx_t1 684 (by decide +kernel) rfl, kx_t1 366 (by decide +kernel) rfl, kx_t1 365 (by decide +kernel) rfl, kx_t1 11 (by decide +kernel) rfl⟩
theorem cs_X3_58 : kx_CV RX3 58 yX3_search cX3_search 3 none 1 3 := ⟨kx_t1 685 (by decide +kernel) rfl, kx_t1 687 (by decide +kernel) rfl, kx_t0 17 (by decide +kernel) rfl, kx_t1 7 (by decide +kernel) rfl, kx_t1 688 (by decide +kernel) rfl, ⟨by decide +kernel, by decide +kernel, by decide +kernel⟩, by decide, ⟨_, rfl, by decide +kernel⟩⟩
theorem cs_X3_62 : kx_CN RX3 62 yX8_areSame cX8_areSame 4 (some .boolean) 3 := ⟨by decide +kernel, kx_t1 604 (by decide +kernel) rfl, kx_t1 1 (by decide +kernel) rfl, kx_t1 605 (by decide +kernel) rfl, ⟨by decide +kernel, by decide +kernel, by decide +kernel⟩, by decide⟩
theorem cs_X3_66 : kx_CV RX3 66 yX3_keepRow cX3_keepRow 1 none 0 3 := ⟨kx_t1 690 (by decide +kernel) rfl, kx_t1 692 (by decide +kernel) rfl, kx_t0 18 (by decide +kernel) rfl, kx_t1 7 (by decide +kernel) rfl, kx_t1 693 (by decide +kernel) rfl, ⟨by decide +kernel, by decide +kernel, by decide +kernel⟩, by decide, ⟨_, rfl, by decide +kernel⟩⟩
theorem cs_X3_69 : kx_CN RX3 69 yX8_retell cX8_retell 5 none 4 := ⟨by decide +kernel, kx_t1 514 (by decide +kernel) rfl, kx_t1 1 (by decide +kernel) rfl, kx_t1 515 (by decide +kernel) rfl, ⟨by decide +kernel, by decide +kernel, by decide +kernel⟩, by decide⟩
theorem cs_L_115 : kx_CV RL 115 yX8_sheet cX8_sheet 4 (some .int) 3 8 := ⟨kx_t1 695 (by decide +kernel) rfl, kx_t1 696 (by decide +kernel) rfl, kx_t1 697 (by decide +kernel) rfl, kx_t1 1 (by decide +kernel) rfl, kx_t1 698 (by decide +kernel) rfl, ⟨by decide +kernel, by decide +kernel, by decide +kernel⟩, by decide, ⟨_, rfl, by decide +kernel⟩⟩
theorem cs_X8_257 : kx_CV RX8 257 yX5_begin cX5_begin 4 none 2 5 := ⟨kx_t1 699 (by decide +kernel) rfl, kx_t1 700 (by decide +kernel) rfl, kx_t1 701 (by decide +kernel) rfl, kx_t1 9 (by decide +kernel) rfl, kx_t1 702 (by decide +kernel) rfl, ⟨by decide +kernel, by decide +kernel, by decide +kernel⟩, by decide, ⟨_, rfl, by decide +kernel⟩⟩
theorem cs_L_119 : kx_CV RL 119 yX8_drop cX8_drop 2 (some .int) 1 8 := ⟨kx_t1 703 (by decide +kernel) rfl, kx_t1 704 (by decide +kernel) rfl, kx_t1 705 (by decide +kernel) rfl, kx_t1 1 (by decide +kernel) rfl, kx_t1 706 (by decide +kernel) rfl, ⟨by decide +kernel, by decide +kernel, by decide +kernel⟩, by decide, ⟨_, rfl, by decide +kernel⟩⟩
theorem cs_L_123 : kx_CV RL 123 yX8_item cX8_item 7 (some .int) 4 8 := ⟨kx_t1 707 (by decide +kernel) rfl, kx_t1 708 (by decide +kernel) rfl, kx_t1 709 (by decide +kernel) rfl, kx_t1 1 (by decide +kernel) rfl, kx_t1 710 (by decide +kernel) rfl, ⟨by decide +kernel, by decide +kernel, by decide +kernel⟩, by decide, ⟨_, rfl, by decide +kernel⟩⟩
theorem cs_L_128 : kx_CV RL 128 yX8_copy cX8_copy 8 (some .int) 5 8 := ⟨kx_t1 711 (by decide +kernel) rfl, kx_t1 712 (by decide +kernel) rfl, kx_t1 713 (by decide +kernel) rfl, kx_t1 1 (by decide +kernel) rfl, kx_t1 714 (by decide +kernel) rfl, ⟨by decide +kernel, by decide +kernel, by decide +kernel⟩, by decide, ⟨_, rfl, by decide +kernel⟩⟩
theorem cs_X8_267 : kx_CV RX8 267 yX5_hasItems cX5_hasItems 3 (some .boolean) 2 5 := ⟨kx_t1 715 (by decide +kernel) rfl, kx_t1 583 (by decide +kernel) rfl, kx_t1 584 (by decide +kernel) rfl, kx_t1 9 (by decide +kernel) rfl, kx_t1 585 (by decide +kernel) rfl, ⟨by decide +kernel, by decide +kernel, by decide +kernel⟩, by decide, ⟨_, rfl, by decide +kernel⟩⟩
theorem ac_X8_273 : kx_AC RX8 273 := ⟨kx_t1 716 (by decide +kernel) rfl, kx_t1 366 (by decide +kernel) rfl, kx_t1 365 (by decide +kernel) rfl, kx_t1 11 (by decide +kernel) rfl⟩
theorem cs_L_19 : kx_CV RL 19 yX9_type cX9_type 6 (some .int) 2 9 := ⟨kx_t1 772 (by decide +kernel) rfl, kx_t1 773 (by decide +kernel) rfl, kx_t1 774 (by decide +kernel) rfl, kx_t1 10 (by decide +kernel) rfl, kx_t1 775 (by decide +kernel) rfl, ⟨by decide +kernel, by decide +kernel, by decide +kernel⟩, by decide, ⟨_, rfl, by decide +kernel⟩⟩
theorem cs_X9_52 : kx_CS RX9 52 yX9_in cX9_in 6 (some .boolean) 3 := ⟨kx_t1 777 (by decide +kernel) rfl, kx_t1 778 (by decide +kernel) rfl, kx_t1 10 (by decide +kernel) rfl, kx_t1 779 (by decide +kernel) rfl, ⟨by decide +kernel, by decide +kernel, by decide +kernel⟩, by decide⟩
theorem cs_L_24 : kx_CV RL 24 yX9_tale cX9_tale 7 (some .int) 0 9 := ⟨kx_t1 783 (by decide +kernel) rfl, kx_t1 784 (by decide +kernel) rfl, kx_t1 785 (by decide +kernel) rfl, kx_t1 10 (by decide +kernel) rfl, kx_t1 786 (by decide +kernel) rfl, ⟨by decide +kernel, by decide +kernel, by decide +kernel⟩, by decide, ⟨_, rfl, by decide +kernel⟩⟩
theorem cs_L_29 : kx_CV RL 29 yX9_change cX9_change 5 (some .int) 3 9 := ⟨kx_t1 789 (by decide +kernel) rfl, kx_t1 790 (by decide +kernel) rfl, kx_t1 791 (by decide +kernel) rfl, kx_t1 10 (by decide +kernel) rfl, kx_t1 792 (by decide +kernel) rfl, ⟨by decide +kernel, by decide +kernel, by decide +kernel⟩, by decide, ⟨_, rfl, by decide +kernel⟩⟩
theorem cs_X9_76 : kx_CV RX9 76 yX9_isSentence cX9_isSentence 3 (some .boolean) 2 9 := ⟨kx_t1 793 (by decide +kernel) rfl, kx_t1 795 (by decide +kernel) rfl, kx_t0 19 (by decide +kernel) rfl, kx_t1 10 (by decide +kernel) rfl, kx_t1 796 (by decide +kernel) rfl, ⟨by decide +kernel, by decide +kernel, by decide +kernel⟩, by decide, ⟨_, rfl, by decide +kernel⟩⟩
theorem cs_X9_72 : kx_CV RX9 72 yX9_isTale cX9_isTale 2 (some .boolean) 1 9 := ⟨kx_t1 797 (by decide +kernel) rfl, kx_t1 799 (by decide +kernel) rfl, kx_t0 20 (by decide +kernel) rfl, kx_t1 10 (by decide +kernel) rfl, kx_t1 800 (by decide +kernel) rfl, ⟨by decide +kernel, by decide +kernel, by decide +kernel⟩, by decide, ⟨_, rfl, by decide +kernel⟩⟩
theorem cs_L_34 : kx_CV RL 34 yX9_teller cX9_teller 3 (some .int) 1 9 := ⟨kx_t1 802 (by decide +kernel) rfl, kx_t1 803 (by decide +kernel) rfl, kx_t1 804 (by decide +kernel) rfl, kx_t1 10 (by decide +kernel) rfl, kx_t1 805 (by decide +kernel) rfl, ⟨by decide +kernel, by decide +kernel, by decide +kernel⟩, by decide, ⟨_, rfl, by decide +kernel⟩⟩
theorem cs_L_38 : kx_CV RL 38 yX9_spinner cX9_spinner 3 (some .int) 0 9 := ⟨kx_t1 807 (by decide +kernel) rfl, kx_t1 808 (by decide +kernel) rfl, kx_t1 809 (by decide +kernel) rfl, kx_t1 10 (by decide +kernel) rfl, kx_t1 810 (by decide +kernel) rfl, ⟨by decide +kernel, by decide +kernel, by decide +kernel⟩, by decide, ⟨_, rfl, by decide +kernel⟩⟩
theorem cs_L_42 : kx_CV RL 42 yX9_memory cX9_memory 3 (some .int) 1 9 := ⟨kx_t1 811 (by decide +kernel) rfl, kx_t1 812 (by decide +kernel) rfl, kx_t1 813 (by decide +kernel) rfl, kx_t1 10 (by decide +kernel) rfl, kx_t1 814 (by decide +kernel) rfl, ⟨by decide +kernel, by decide +kernel, by decide +kernel⟩, by decide, ⟨_, rfl, by decide +kernel⟩⟩
theorem cs_L_47 : kx_CV RL 47 yX9_told cX9_told 3 (some .int) 2 9 := ⟨kx_t1 816 (by decide +kernel) rfl, kx_t1 817 (by decide +kernel) rfl, kx_t1 818 (by decide +kernel) rfl, kx_t1 10 (by decide +kernel) rfl, kx_t1 819 (by decide +kernel) rfl, ⟨by decide +kernel, by decide +kernel, by decide +kernel⟩, by decide, ⟨_, rfl, by decide +kernel⟩⟩
theorem cs_L_51 : kx_CV RL 51 yX9_tells cX9_tells 4 (some .int) 3 9 := ⟨kx_t1 820 (by decide +kernel) rfl, kx_t1 821 (by decide +kernel) rfl, kx_t1 822 (by decide +kernel) rfl, kx_t1 10 (by decide +kernel) rfl, kx_t1 823 (by decide +kernel) rfl, ⟨by decide +kernel, by decide +kernel, by decide +kernel⟩, by decide, ⟨_, rfl, by decide +kernel⟩⟩
theorem cs_X9_90 : kx_CV RX9 90 yX9_isTeller cX9_isTeller 2 (some .boolean) 1 9 := ⟨kx_t1 824 (by decide +kernel) rfl, kx_t1 826 (by decide +kernel) rfl, kx_t0 21 (by decide +kernel) rfl, kx_t1 10 (by decide +kernel) rfl, kx_t1 827 (by decide +kernel) rfl, ⟨by decide +kernel, by decide +kernel, by decide +kernel⟩, by decide, ⟨_, rfl, by decide +kernel⟩⟩
theorem cs_X9_93 : kx_CV RX9 93 yX9_tellsIt cX9_tellsIt 6 (some .int) 3 9 := ⟨kx_t1 828 (by decide +kernel) rfl, kx_t1 830 (by decide +kernel) rfl, kx_t0 22 (by decide +kernel) rfl, kx_t1 10 (by decide +kernel) rfl, kx_t1 831 (by decide +kernel) rfl, ⟨by decide +kernel, by decide +kernel, by decide +kernel⟩, by decide, ⟨_, rfl, by decide +kernel⟩⟩
theorem cs_X9_86 : kx_CS RX9 86 yX9_by cX9_by 2 (some .int) 2 := ⟨kx_t1 832 (by decide +kernel) rfl, kx_t1 833 (by decide +kernel) rfl, kx_t1 10 (by decide +kernel) rfl, kx_t1 834 (by decide +kernel) rfl, ⟨by decide +kernel, by decide +kernel, by decide +kernel⟩, by decide⟩
theorem cs_L_55 : kx_CV RL 55 yX9_yards cX9_yards 3 (some .int) 2 9 := ⟨kx_t1 835 (by decide +kernel) rfl, kx_t1 836 (by decide +kernel) rfl, kx_t1 837 (by decide +kernel) rfl, kx_t1 10 (by decide +kernel) rfl, kx_t1 838 (by decide +kernel) rfl, ⟨by decide +kernel, by decide +kernel, by decide +kernel⟩, by decide, ⟨_, rfl, by decide +kernel⟩⟩
theorem cs_X9_97 : kx_CV RX9 97 yX9_isSpinner cX9_isSpinner 2 (some .boolean) 1 9 := ⟨kx_t1 839 (by decide +kernel) rfl, kx_t1 841 (by decide +kernel) rfl, kx_t0 23 (by decide +kernel) rfl, kx_t1 10 (by decide +kernel) rfl, kx_t1 842 (by decide +kernel) rfl, ⟨by decide +kernel, by decide +kernel, by decide +kernel⟩, by decide, ⟨_, rfl, by decide +kernel⟩⟩
theorem cs_L_59 : kx_CV RL 59 yX9_use cX9_use 5 (some .int) 3 9 := ⟨kx_t1 843 (by decide +kernel) rfl, kx_t1 844 (by decide +kernel) rfl, kx_t1 845 (by decide +kernel) rfl, kx_t1 10 (by decide +kernel) rfl, kx_t1 846 (by decide +kernel) rfl, ⟨by decide +kernel, by decide +kernel, by decide +kernel⟩, by decide, ⟨_, rfl, by decide +kernel⟩⟩
theorem cs_L_63 : kx_CV RL 63 yX9_mind cX9_mind 4 (some .int) 1 9 := ⟨kx_t1 848 (by decide +kernel) rfl, kx_t1 849 (by decide +kernel) rfl, kx_t1 850 (by decide +kernel) rfl, kx_t1 10 (by decide +kernel) rfl, kx_t1 851 (by decide +kernel) rfl, ⟨by decide +kernel, by decide +kernel, by decide +kernel⟩, by decide, ⟨_, rfl, by decide +kernel⟩⟩
theorem cs_X9_105 : kx_CV RX9 105 yX9_hasMind cX9_hasMind 4 (some .boolean) 3 9 := ⟨kx_t1 852 (by decide +kernel) rfl, kx_t1 854 (by decide +kernel) rfl, kx_t0 24 (by decide +kernel) rfl, kx_t1 10 (by decide +kernel) rfl, kx_t1 855 (by decide +kernel) rfl, ⟨by decide +kernel, by decide +kernel, by decide +kernel⟩, by decide, ⟨_, rfl, by decide +kernel⟩⟩
theorem cs_X9_102 : kx_CV RX9 102 yX9_isMind cX9_isMind 3 (some .boolean) 2 9 := ⟨kx_t1 856 (by decide +kernel) rfl, kx_t1 858 (by decide +kernel) rfl, kx_t0 25 (by decide +kernel) rfl, kx_t1 10 (by decide +kernel) rfl, kx_t1 859 (by decide +kernel) rfl, ⟨by decide +kernel, by decide +kernel, by decide +kernel⟩, by decide, ⟨_, rfl, by decide +kernel⟩⟩
theorem cs_L_67 : kx_CV RL 67 yX9_count cX9_count 2 (some .int) 1 9 := ⟨kx_t1 860 (by decide +kernel) rfl, kx_t1 861 (by decide +kernel) rfl, kx_t1 862 (by decide +kernel) rfl, kx_t1 10 (by decide +kernel) rfl, kx_t1 863 (by decide +kernel) rfl, ⟨by decide +kernel, by decide +kernel, by decide +kernel⟩, by decide, ⟨_, rfl, by decide +kernel⟩⟩
theorem cs_L_72 : kx_CV RL 72 yX9_evening cX9_evening 14 (some .int) 4 9 := ⟨kx_t1 865 (by decide +kernel) rfl, kx_t1 866 (by decide +kernel) rfl, kx_t1 867 (by decide +kernel) rfl, kx_t1 10 (by decide +kernel) rfl, kx_t1 868 (by decide +kernel) rfl, ⟨by decide +kernel, by decide +kernel, by decide +kernel⟩, by decide, ⟨_, rfl, by decide +kernel⟩⟩
theorem cs_X9_111 : kx_CS RX9 111 yX9_sortOf cX9_sortOf 1 (some .int) 1 := ⟨kx_t1 869 (by decide +kernel) rfl, kx_t1 870 (by decide +kernel) rfl, kx_t1 10 (by decide +kernel) rfl, kx_t1 871 (by decide +kernel) rfl, ⟨by decide +kernel, by decide +kernel, by decide +kernel⟩, by decide⟩
theorem cs_L_76 : kx_CV RL 76 yX9_store cX9_store 11 (some .int) 3 9 := ⟨kx_t1 872 (by decide +kernel) rfl, kx_t1 873 (by decide +kernel) rfl, kx_t1 874 (by decide +kernel) rfl, kx_t1 10 (by decide +kernel) rfl, kx_t1 875 (by decide +kernel) rfl, ⟨by decide +kernel, by decide +kernel, by decide +kernel⟩, by decide, ⟨_, rfl, by decide +kernel⟩⟩
theorem cs_X9_119 : kx_CV RX9 119 yX9_sortsBy cX9_sortsBy 10 (some .int) 2 9 := ⟨kx_t1 878 (by decide +kernel) rfl, kx_t1 880 (by decide +kernel) rfl, kx_t0 26 (by decide +kernel) rfl, kx_t1 10 (by decide +kernel) rfl, kx_t1 881 (by decide +kernel) rfl, ⟨by decide +kernel, by decide +kernel, by decide +kernel⟩, by decide, ⟨_, rfl, by decide +kernel⟩⟩
theorem cs_L_81 : kx_CV RL 81 yX9_play cX9_play 6 (some .int) 5 9 := ⟨kx_t1 882 (by decide +kernel) rfl, kx_t1 883 (by decide +kernel) rfl, kx_t1 884 (by decide +kernel) rfl, kx_t1 10 (by decide +kernel) rfl, kx_t1 885 (by decide +kernel) rfl, ⟨by decide +kernel, by decide +kernel, by decide +kernel⟩, by decide, ⟨_, rfl, by decide +kernel⟩⟩
theorem cs_X9_123 : kx_CV RX9 123 yX9_points cX9_points 10 (some .int) 5 9 := ⟨kx_t1 887 (by decide +kernel) rfl, kx_t1 889 (by decide +kernel) rfl, kx_t0 27 (by decide +kernel) rfl, kx_t1 10 (by decide +kernel) rfl, kx_t1 890 (by decide +kernel) rfl, ⟨by decide +kernel, by decide +kernel, by decide +kernel⟩, by decide, ⟨_, rfl, by decide +kernel⟩⟩
theorem cs_L_85 : kx_CV RL 85 yX9_rests cX9_rests 10 (some .int) 3 9 := ⟨kx_t1 891 (by decide +kernel) rfl, kx_t1 892 (by decide +kernel) rfl, kx_t1 893 (by decide +kernel) rfl, kx_t1 10 (by decide +kernel) rfl, kx_t1 894 (by decide +kernel) rfl, ⟨by decide +kernel, by decide +kernel, by decide +kernel⟩, by decide, ⟨_, rfl, by decide +kernel⟩⟩
theorem cs_L_89 : kx_CV RL 89 yX9_image cX9_image 2 (some .int) 0 9 := ⟨kx_t1 895 (by decide +kernel) rfl, kx_t1 896 (by decide +kernel) rfl, kx_t1 897 (by decide +kernel) rfl, kx_t1 10 (by decide +kernel) rfl, kx_t1 898 (by decide +kernel) rfl, ⟨by decide +kernel, by decide +kernel, by decide +kernel⟩, by decide, ⟨_, rfl, by decide +kernel⟩⟩
theorem cs_L_93 : kx_CV RL 93 yX9_restore cX9_restore 2 (some .int) 0 9 := ⟨kx_t1 899 (by decide +kernel) rfl, kx_t1 900 (by decide +kernel) rfl, kx_t1 901 (by decide +kernel) rfl, kx_t1 10 (by decide +kernel) rfl, kx_t1 902 (by decide +kernel) rfl, ⟨by decide +kernel, by decide +kernel, by decide +kernel⟩, by decide, ⟨_, rfl, by decide +kernel⟩⟩
theorem cs_L_97 : kx_CV RL 97 yX9_coat cX9_coat 8 (some .int) 5 9 := ⟨kx_t1 903 (by decide +kernel) rfl, kx_t1 904 (by decide +kernel) rfl, kx_t1 905 (by decide +kernel) rfl, kx_t1 10 (by decide +kernel) rfl, kx_t1 906 (by decide +kernel) rfl, ⟨by decide +kernel, by decide +kernel, by decide +kernel⟩, by decide, ⟨_, rfl, by decide +kernel⟩⟩
theorem cs_X9_143 : kx_CS RX9 143 yX9_isSheet cX9_isSheet 2 (some .boolean) 2 := ⟨kx_t1 907 (by decide +kernel) rfl, kx_t1 908 (by decide +kernel) rfl, kx_t1 10 (by decide +kernel) rfl, kx_t1 909 (by decide +kernel) rfl, ⟨by decide +kernel, by decide +kernel, by decide +kernel⟩, by decide⟩
theorem cs_X9_148 : kx_CV RX9 148 yX9_barred cX9_barred 8 (some .int) 5 9 := ⟨kx_t1 912 (by decide +kernel) rfl, kx_t1 914 (by decide +kernel) rfl, kx_t0 28 (by decide +kernel) rfl, kx_t1 10 (by decide +kernel) rfl, kx_t1 915 (by decide +kernel) rfl, ⟨by decide +kernel, by decide +kernel, by decide +kernel⟩, by decide, ⟨_, rfl, by decide +kernel⟩⟩
theorem cs_X9_133 : kx_CV RX9 133 yX9_found cX9_found 5 (some .int) 4 9 := ⟨kx_t1 916 (by decide +kernel) rfl, kx_t1 918 (by decide +kernel) rfl, kx_t0 29 (by decide +kernel) rfl, kx_t1 10 (by decide +kernel) rfl, kx_t1 919 (by decide +kernel) rfl, ⟨by decide +kernel, by decide +kernel, by decide +kernel⟩, by decide, ⟨_, rfl, by decide +kernel⟩⟩
theorem cs_X9_151 : kx_CV RX9 151 yX9_measures cX9_measures 7 none 1 9 := ⟨kx_t1 920 (by decide +kernel) rfl, kx_t1 922 (by decide +kernel) rfl, kx_t0 30 (by decide +kernel) rfl, kx_t1 10 (by decide +kernel) rfl, kx_t1 923 (by decide +kernel) rfl, ⟨by decide +kernel, by decide +kernel, by decide +kernel⟩, by decide, ⟨_, rfl, by decide +kernel⟩⟩
theorem cs_X9_155 : kx_CV RX9 155 yX9_finds cX9_finds 4 (some .boolean) 2 9 := ⟨kx_t1 924 (by decide +kernel) rfl, kx_t1 926 (by decide +kernel) rfl, kx_t0 31 (by decide +kernel) rfl, kx_t1 10 (by decide +kernel) rfl, kx_t1 927 (by decide +kernel) rfl, ⟨by decide +kernel, by decide +kernel, by decide +kernel⟩, by decide, ⟨_, rfl, by decide +kernel⟩⟩
theorem cs_X9_137 : kx_CV RX9 137 yX9_isCoat cX9_isCoat 5 (some .boolean) 2 9 := ⟨kx_t1 928 (by decide +kernel) rfl, kx_t1 930 (by decide +kernel) rfl, kx_t0 32 (by decide +kernel) rfl, kx_t1 10 (by decide +kernel) rfl, kx_t1 931 (by decide +kernel) rfl, ⟨by decide +kernel, by decide +kernel, by decide +kernel⟩, by decide, ⟨_, rfl, by decide +kernel⟩⟩
theorem cs_X9_140 : kx_CV RX9 140 yX9_after cX9_after 4 (some .int) 1 9 := ⟨kx_t1 932 (by decide +kernel) rfl, kx_t1 934 (by decide +kernel) rfl, kx_t0 33 (by decide +kernel) rfl, kx_t1 10 (by decide +kernel) rfl, kx_t1 935 (by decide +kernel) rfl, ⟨by decide +kernel, by decide +kernel, by decide +kernel⟩, by decide, ⟨_, rfl, by decide +kernel⟩⟩
theorem cs_L_101 : kx_CV RL 101 yX9_read cX9_read 14 (some .int) 5 9 := ⟨kx_t1 936 (by decide +kernel) rfl, kx_t1 937 (by decide +kernel) rfl, kx_t1 938 (by decide +kernel) rfl, kx_t1 10 (by decide +kernel) rfl, kx_t1 939 (by decide +kernel) rfl, ⟨by decide +kernel, by decide +kernel, by decide +kernel⟩, by decide, ⟨_, rfl, by decide +kernel⟩⟩
theorem cs_X9_160 : kx_CV RX9 160 yX9_isSo cX9_isSo 6 (some .boolean) 3 9 := ⟨kx_t1 941 (by decide +kernel) rfl, kx_t1 943 (by decide +kernel) rfl, kx_t0 34 (by decide +kernel) rfl, kx_t1 10 (by decide +kernel) rfl, kx_t1 944 (by decide +kernel) rfl, ⟨by decide +kernel, by decide +kernel, by decide +kernel⟩, by decide, ⟨_, rfl, by decide +kernel⟩⟩
theorem cs_L_105 : kx_CV RL 105 yX9_untangle cX9_untangle 14 (some .int) 5 9 := ⟨kx_t1 945 (by decide +kernel) rfl, kx_t1 946 (by decide +kernel) rfl, kx_t1 947 (by decide +kernel) rfl, kx_t1 10 (by decide +kernel) rfl, kx_t1 948 (by decide +kernel) rfl, ⟨by decide +kernel, by decide +kernel, by decide +kernel⟩, by decide, ⟨_, rfl, by decide +kernel⟩⟩
theorem cs_X9_163 : kx_CV RX9 163 yX9_tangles cX9_tangles 5 (some .int) 2 9 := ⟨kx_t1 949 (by decide +kernel) rfl, kx_t1 951 (by decide +kernel) rfl, kx_t0 35 (by decide +kernel) rfl, kx_t1 10 (by decide +kernel) rfl, kx_t1 952 (by decide +kernel) rfl, ⟨by decide +kernel, by decide +kernel, by decide +kernel⟩, by decide, ⟨_, rfl, by decide +kernel⟩⟩
theorem cs_L_109 : kx_CV RL 109 yX9_tangle cX9_tangle 9 (some .int) 5 9 := ⟨kx_t1 953 (by decide +kernel) rfl, kx_t1 954 (by decide +kernel) rfl, kx_t1 955 (by decide +kernel) rfl, kx_t1 10 (by decide +kernel) rfl, kx_t1 956 (by decide +kernel) rfl, ⟨by decide +kernel, by decide +kernel, by decide +kernel⟩, by decide, ⟨_, rfl, by decide +kernel⟩⟩
theorem cs_L_114 : kx_CV RL 114 yX9_passed cX9_passed 14 (some .int) 7 9 := ⟨kx_t1 957 (by decide +kernel) rfl, kx_t1 958 (by decide +kernel) rfl, kx_t1 959 (by decide +kernel) rfl, kx_t1 10 (by decide +kernel) rfl, kx_t1 960 (by decide +kernel) rfl, ⟨by decide +kernel, by decide +kernel, by decide +kernel⟩, by decide, ⟨_, rfl, by decide +kernel⟩⟩
theorem cs_X9_166 : kx_CV RX9 166 yX9_becomes cX9_becomes 10 (some .boolean) 5 9 := ⟨kx_t1 961 (by decide +kernel) rfl, kx_t1 963 (by decide +kernel) rfl, kx_t0 36 (by decide +kernel) rfl, kx_t1 10 (by decide +kernel) rfl, kx_t1 964 (by decide +kernel) rfl, ⟨by decide +kernel, by decide +kernel, by decide +kernel⟩, by decide, ⟨_, rfl, by decide +kernel⟩⟩
theorem cs_L_118 : kx_CV RL 118 yX9_sheet cX9_sheet 5 (some .int) 3 9 := ⟨kx_t1 965 (by decide +kernel) rfl, kx_t1 966 (by decide +kernel) rfl, kx_t1 967 (by decide +kernel) rfl, kx_t1 10 (by decide +kernel) rfl, kx_t1 968 (by decide +kernel) rfl, ⟨by decide +kernel, by decide +kernel, by decide +kernel⟩, by decide, ⟨_, rfl, by decide +kernel⟩⟩
theorem cs_L_122 : kx_CV RL 122 yX9_drop cX9_drop 3 (some .int) 1 9 := ⟨kx_t1 969 (by decide +kernel) rfl, kx_t1 970 (by decide +kernel) rfl, kx_t1 971 (by decide +kernel) rfl, kx_t1 10 (by decide +kernel) rfl, kx_t1 972 (by decide +kernel) rfl, ⟨by decide +kernel, by decide +kernel, by decide +kernel⟩, by decide, ⟨_, rfl, by decide +kernel⟩⟩
theorem cs_L_127 : kx_CV RL 127 yX9_item cX9_item 7 (some .int) 4 9 := ⟨kx_t1 973 (by decide +kernel) rfl, kx_t1 974 (by decide +kernel) rfl, kx_t1 975 (by decide +kernel) rfl, kx_t1 10 (by decide +kernel) rfl, kx_t1 976 (by decide +kernel) rfl, ⟨by decide +kernel, by decide +kernel, by decide +kernel⟩, by decide, ⟨_, rfl, by decide +kernel⟩⟩
theorem cs_L_131 : kx_CV RL 131 yX9_copy cX9_copy 8 (some .int) 5 9 := ⟨kx_t1 977 (by decide +kernel) rfl, kx_t1 978 (by decide +kernel) rfl, kx_t1 979 (by decide +kernel) rfl, kx_t1 10 (by decide +kernel) rfl, kx_t1 980 (by decide +kernel) rfl, ⟨by decide +kernel, by decide +kernel, by decide +kernel⟩, by decide, ⟨_, rfl, by decide +kernel⟩⟩
theorem cn_J6_265 : Cond.constant RJ6 265 (1431655765) ∈ kx_tb := kx_t1 480 (by decide +kernel) rfl
theorem cn_J6_266 : Cond.constant RJ6 266 (858993459) ∈ kx_tb := kx_t1 481 (by decide +kernel) rfl
theorem cn_J6_267 : Cond.constant RJ6 267 (252645135) ∈ kx_tb := kx_t1 482 (by decide +kernel) rfl
theorem cn_X8_177 : Cond.constant RX8 177 (-100001) ∈ kx_tb := kx_t1 508 (by decide +kernel) rfl
theorem cn_X9_56 : Cond.constantLong RX9 56 (8) ∈ kx_tb := kx_t1 776 (by decide +kernel) rfl
theorem cn_X9_58 : Cond.constantLong RX9 58 (255) ∈ kx_tb := kx_t1 780 (by decide +kernel) rfl
theorem cn_X9_60 : Cond.constantLong RX9 60 (32) ∈ kx_tb := kx_t1 781 (by decide +kernel) rfl
theorem cn_X9_62 : Cond.constantLong RX9 62 (126) ∈ kx_tb := kx_t1 782 (by decide +kernel) rfl
theorem cn_X9_68 : Cond.constantLong RX9 68 (48) ∈ kx_tb := kx_t1 787 (by decide +kernel) rfl
theorem cn_X9_70 : Cond.constantLong RX9 70 (57) ∈ kx_tb := kx_t1 788 (by decide +kernel) rfl
theorem cn_X9_80 : Cond.constantLong RX9 80 (9) ∈ kx_tb := kx_t1 801 (by decide +kernel) rfl
theorem cn_X9_82 : Cond.constantLong RX9 82 (3) ∈ kx_tb := kx_t1 806 (by decide +kernel) rfl
theorem cn_X9_84 : Cond.constantLong RX9 84 (99) ∈ kx_tb := kx_t1 815 (by decide +kernel) rfl
theorem cn_X9_100 : Cond.constantLong RX9 100 (999) ∈ kx_tb := kx_t1 847 (by decide +kernel) rfl
theorem cn_X9_109 : Cond.constantLong RX9 109 (6) ∈ kx_tb := kx_t1 864 (by decide +kernel) rfl
theorem cn_X9_115 : Cond.constantLong RX9 115 (5) ∈ kx_tb := kx_t1 876 (by decide +kernel) rfl
theorem cn_X9_117 : Cond.constantLong RX9 117 (-1) ∈ kx_tb := kx_t1 877 (by decide +kernel) rfl
theorem cn_X9_122 : Cond.constant RX9 122 (-100001) ∈ kx_tb := kx_t1 886 (by decide +kernel) rfl
theorem cn_X9_131 : Cond.constantLong RX9 131 (2) ∈ kx_tb := kx_t1 910 (by decide +kernel) rfl
theorem cn_X9_146 : Cond.constantLong RX9 146 (7) ∈ kx_tb := kx_t1 911 (by decide +kernel) rfl
theorem cn_X9_158 : Cond.constantLong RX9 158 (16) ∈ kx_tb := kx_t1 940 (by decide +kernel) rfl
theorem cn_L_13 : Cond.constantLong RL 13 (4294967295) ∈ kx_tb := kx_t1 981 (by decide +kernel) rfl
end
section
theorem nI_one : nI 1 = 1 := rfl
theorem nI_zero : nI 0 = 0 := rfl
theorem kx_b01 (c : Prop) [Decidable c] : narrow .boolean (.int (if c then 1 else 0)) = .int (if c then 1 else 0) := by split <;> rfl
theorem kx_bI (r : Int32) (h : r = 0 ∨ r = 1) : narrow .boolean (.int r) = .int r := by rcases h with rfl | rfl <;> rfl
theorem kx_nat {x : Int32} (h : 0 ≤ x.toInt) : ∃ j : Nat, x = nI j ∧ x.toInt = (j : Int) ∧ j < 2 ^ 31 := by
  obtain ⟨j, h1, h2⟩ := nI_of (x := x) (fun q => by have := Int32.lt_iff_toInt_lt.mp q; simp at this; omega)
  exact ⟨j, h2, by rw [h2, nI_toInt h1], h1⟩
theorem kx_T {n : Nat} (h : n < 2 ^ 31) : (nI n).toInt = (n : Int) := nI_toInt h
theorem kx_Ts {a b : Nat} (ha : a < 2 ^ 30) (hb : b < 2 ^ 30) : (nI a - nI b).toInt = (a : Int) - b := pk_sub_toInt ha hb
theorem kx_eqI {x y : Int32} : x = y ↔ x.toInt = y.toInt := ⟨fun h => by rw [h], fun h => Int32.toInt_inj.mp h⟩
theorem kx_icmp_ltI {own : String} {cc : ByteArray} {nL dp : Nat} {F : kx_F} (C : kx_Ru own cc nL dp F) {pc : Nat} {L : List (Option Value)} {S : List Value} {h : kx_H} {x y : Int32} {off : Int} (tgt : Nat) (d : decode cc pc = .ok (.if_icmp .lt off, 3)) (ht : (pc : Int) + off = (tgt : Int)) (kt : x.toInt < y.toInt → F tgt L S h) (kf : y.toInt ≤ x.toInt → F (pc + 3) L S h) : F pc L (.int y :: .int x :: S) h := kx_icmp_lt C tgt d ht (fun z => kt (Int32.lt_iff_toInt_lt.mp z)) (fun z => kf (by have q : ¬ (x.toInt < y.toInt) := fun q => z (Int32.lt_iff_toInt_lt.mpr q); omega))
theorem kx_icmp_geI {own : String} {cc : ByteArray} {nL dp : Nat} {F : kx_F} (C : kx_Ru own cc nL dp F) {pc : Nat} {L : List (Option Value)} {S : List Value} {h : kx_H} {x y : Int32} {off : Int} (tgt : Nat) (d : decode cc pc = .ok (.if_icmp .ge off, 3)) (ht : (pc : Int) + off = (tgt : Int)) (kt : y.toInt ≤ x.toInt → F tgt L S h) (kf : x.toInt < y.toInt → F (pc + 3) L S h) : F pc L (.int y :: .int x :: S) h := kx_icmp_ge C tgt d ht (fun z => kt (Int32.le_iff_toInt_le.mp z)) (fun z => kf (by have q : ¬ (y.toInt ≤ x.toInt) := fun q => z (Int32.le_iff_toInt_le.mpr q); omega))
theorem kx_icmp_gtI {own : String} {cc : ByteArray} {nL dp : Nat} {F : kx_F} (C : kx_Ru own cc nL dp F) {pc : Nat} {L : List (Option Value)} {S : List Value} {h : kx_H} {x y : Int32} {off : Int} (tgt : Nat) (d : decode cc pc = .ok (.if_icmp .gt off, 3)) (ht : (pc : Int) + off = (tgt : Int)) (kt : y.toInt < x.toInt → F tgt L S h) (kf : x.toInt ≤ y.toInt → F (pc + 3) L S h) : F pc L (.int y :: .int x :: S) h := kx_icmp_gt C tgt d ht (fun z => kt (Int32.lt_iff_toInt_lt.mp z)) (fun z => kf (by have q : ¬ (y.toInt < x.toInt) := fun q => z (Int32.lt_iff_toInt_lt.mpr q); omega))
theorem kx_icmp_leI {own : String} {cc : ByteArray} {nL dp : Nat} {F : kx_F} (C : kx_Ru own cc nL dp F) {pc : Nat} {L : List (Option Value)} {S : List Value} {h : kx_H} {x y : Int32} {off : Int} (tgt : Nat) (d : decode cc pc = .ok (.if_icmp .le off, 3)) (ht : (pc : Int) + off = (tgt : Int)) (kt : x.toInt ≤ y.toInt → F tgt L S h) (kf : y.toInt < x.toInt → F (pc + 3) L S h) : F pc L (.int y :: .int x :: S) h := kx_icmp_le C tgt d ht (fun z => kt (Int32.le_iff_toInt_le.mp z)) (fun z => kf (by have q : ¬ (x.toInt ≤ y.toInt) := fun q => z (Int32.le_iff_toInt_le.mpr q); omega))
theorem kx_if_ltI {own : String} {cc : ByteArray} {nL dp : Nat} {F : kx_F} (C : kx_Ru own cc nL dp F) {pc : Nat} {L : List (Option Value)} {S : List Value} {h : kx_H} {x : Int32} {off : Int} (tgt : Nat) (d : decode cc pc = .ok (.ifCond .lt off, 3)) (ht : (pc : Int) + off = (tgt : Int)) (kt : x.toInt < 0 → F tgt L S h) (kf : 0 ≤ x.toInt → F (pc + 3) L S h) : F pc L (.int x :: S) h := kx_if_lt C tgt d ht (fun z => kt (Int32.lt_iff_toInt_lt.mp z)) (fun z => kf (by have q : ¬ (x.toInt < 0) := fun q => z (Int32.lt_iff_toInt_lt.mpr q); omega))
theorem kx_if_geI {own : String} {cc : ByteArray} {nL dp : Nat} {F : kx_F} (C : kx_Ru own cc nL dp F) {pc : Nat} {L : List (Option Value)} {S : List Value} {h : kx_H} {x : Int32} {off : Int} (tgt : Nat) (d : decode cc pc = .ok (.ifCond .ge off, 3)) (ht : (pc : Int) + off = (tgt : Int)) (kt : 0 ≤ x.toInt → F tgt L S h) (kf : x.toInt < 0 → F (pc + 3) L S h) : F pc L (.int x :: S) h := kx_if_ge C tgt d ht (fun z => kt (Int32.le_iff_toInt_le.mp z)) (fun z => kf (by have q : ¬ (0 ≤ x.toInt) := fun q => z (Int32.le_iff_toInt_le.mpr q); omega))
theorem kx_if_gtI {own : String} {cc : ByteArray} {nL dp : Nat} {F : kx_F} (C : kx_Ru own cc nL dp F) {pc : Nat} {L : List (Option Value)} {S : List Value} {h : kx_H} {x : Int32} {off : Int} (tgt : Nat) (d : decode cc pc = .ok (.ifCond .gt off, 3)) (ht : (pc : Int) + off = (tgt : Int)) (kt : 0 < x.toInt → F tgt L S h) (kf : x.toInt ≤ 0 → F (pc + 3) L S h) : F pc L (.int x :: S) h := kx_if_gt C tgt d ht (fun z => kt (Int32.lt_iff_toInt_lt.mp z)) (fun z => kf (by have q : ¬ (0 < x.toInt) := fun q => z (Int32.lt_iff_toInt_lt.mpr q); omega))
theorem kx_if_leI {own : String} {cc : ByteArray} {nL dp : Nat} {F : kx_F} (C : kx_Ru own cc nL dp F) {pc : Nat} {L : List (Option Value)} {S : List Value} {h : kx_H} {x : Int32} {off : Int} (tgt : Nat) (d : decode cc pc = .ok (.ifCond .le off, 3)) (ht : (pc : Int) + off = (tgt : Int)) (kt : x.toInt ≤ 0 → F tgt L S h) (kf : 0 < x.toInt → F (pc + 3) L S h) : F pc L (.int x :: S) h := kx_if_le C tgt d ht (fun z => kt (Int32.le_iff_toInt_le.mp z)) (fun z => kf (by have q : ¬ (x.toInt ≤ 0) := fun q => z (Int32.le_iff_toInt_le.mpr q); omega))
theorem kx_if_eqN {own : String} {cc : ByteArray} {nL dp : Nat} {F : kx_F} (C : kx_Ru own cc nL dp F) {pc : Nat} {L : List (Option Value)} {S : List Value} {h : kx_H} {a : Nat} {off : Int} (tgt : Nat) (ha : a < 2 ^ 31) (d : decode cc pc = .ok (.ifCond .eq off, 3)) (ht : (pc : Int) + off = (tgt : Int)) (kt : a = 0 → F tgt L S h) (kf : 0 < a → F (pc + 3) L S h) : F pc L (.int (nI a) :: S) h := kx_if_eq C tgt d ht (fun z => kt (by have q : nI a = nI 0 ↔ a = 0 := nI_eq ha (by decide); rw [nI_zero] at q; first | exact q.mp z | (have q2 : ¬ a = 0 := fun e => z (q.mpr e); omega))) (fun z => kf (by have q : nI a = nI 0 ↔ a = 0 := nI_eq ha (by decide); rw [nI_zero] at q; first | exact q.mp z | (have q2 : ¬ a = 0 := fun e => z (q.mpr e); omega)))
theorem kx_if_neN {own : String} {cc : ByteArray} {nL dp : Nat} {F : kx_F} (C : kx_Ru own cc nL dp F) {pc : Nat} {L : List (Option Value)} {S : List Value} {h : kx_H} {a : Nat} {off : Int} (tgt : Nat) (ha : a < 2 ^ 31) (d : decode cc pc = .ok (.ifCond .ne off, 3)) (ht : (pc : Int) + off = (tgt : Int)) (kt : 0 < a → F tgt L S h) (kf : a = 0 → F (pc + 3) L S h) : F pc L (.int (nI a) :: S) h := kx_if_ne C tgt d ht (fun z => kt (by have q : nI a = nI 0 ↔ a = 0 := nI_eq ha (by decide); rw [nI_zero] at q; first | exact q.mp z | (have q2 : ¬ a = 0 := fun e => z (q.mpr e); omega))) (fun z => kf (by have q : nI a = nI 0 ↔ a = 0 := nI_eq ha (by decide); rw [nI_zero] at q; first | exact q.mp z | (have q2 : ¬ a = 0 := fun e => z (q.mpr e); omega)))
theorem kx_if_gtN {own : String} {cc : ByteArray} {nL dp : Nat} {F : kx_F} (C : kx_Ru own cc nL dp F) {pc : Nat} {L : List (Option Value)} {S : List Value} {h : kx_H} {a : Nat} {off : Int} (tgt : Nat) (ha : a < 2 ^ 31) (d : decode cc pc = .ok (.ifCond .gt off, 3)) (ht : (pc : Int) + off = (tgt : Int)) (kt : 0 < a → F tgt L S h) (kf : a = 0 → F (pc + 3) L S h) : F pc L (.int (nI a) :: S) h := kx_if_gtI C tgt d ht (fun z => kt (by rw [kx_T ha] at z; omega)) (fun z => kf (by rw [kx_T ha] at z; omega))
theorem kx_if_leN {own : String} {cc : ByteArray} {nL dp : Nat} {F : kx_F} (C : kx_Ru own cc nL dp F) {pc : Nat} {L : List (Option Value)} {S : List Value} {h : kx_H} {a : Nat} {off : Int} (tgt : Nat) (ha : a < 2 ^ 31) (d : decode cc pc = .ok (.ifCond .le off, 3)) (ht : (pc : Int) + off = (tgt : Int)) (kt : a = 0 → F tgt L S h) (kf : 0 < a → F (pc + 3) L S h) : F pc L (.int (nI a) :: S) h := kx_if_leI C tgt d ht (fun z => kt (by rw [kx_T ha] at z; omega)) (fun z => kf (by rw [kx_T ha] at z; omega))
theorem kx_if1 {c : Prop} [Decidable c] (h : ¬ (if c then (1 : Int32) else 0) = 0) : c := by
  by_cases q : c
  · exact q
  · simp [q] at h
theorem kx_if0 {c : Prop} [Decidable c] (h : (if c then (1 : Int32) else 0) = 0) : ¬ c := by
  intro q
  simp [q] at h
def kx_Mmax (own : String) (idx : Nat) : Prop := Cond.methodLink own idx Lib.Math.max.name ∈ kx_tb ∧ Cond.static Lib.Math.max.name ∈ kx_tb ∧ Cond.initialized "java/lang/Math" ∈ kx_tb ∧ Cond.code Lib.Math.max.name Lib.Math.max.code 2 (some .int) ∈ kx_tb
theorem kx_max {own : String} {cc : ByteArray} {nL dp : Nat} {F : kx_F} (C : kx_Ru own cc nL dp F) {pc : Nat} {L : List (Option Value)} {S : List Value} {h : kx_H} {idx : Nat} {x y v : Int32} (mw : kx_Mmax own idx) (hdp : 1 ≤ dp) (hcat : (S.map fun v => v.category).sum ≤ 8) (hv : (if x.toInt < y.toInt then y else x) = v) (d : decode cc pc = .ok (.invokestatic idx, 3)) (k : F (pc + 3) L (.int v :: S) h) : F pc L (.int y :: .int x :: S) h := by
  obtain ⟨p, l, e, R, s, m, args, below, meth, c, cells, slots, Q, D, ad, cA, A, ⟨hx, hb, hml, hown, hts⟩, hN, hK, hJ, hA, hR, rfl⟩ := C
  intro H locs ls hP hS hl
  obtain ⟨b1, b2, b3, b4⟩ := mw
  have hc2 := kx_cats (ad := ad) hcat
  refine va_mmax hx hb (by rw [hml]; exact hl.1.symm) hown (hts _ b1) (hts _ b2) (hts _ b3) (hts _ b4) (by omega) (by omega) hR.2.2.1 hR.2.2.2 d ?_
  rw [show (if x < y then y else x) = v by rw [← hv]; simp only [Int32.lt_iff_toInt_lt]]
  exact k H locs ls hP hS hl
def kx_Mmin (own : String) (idx : Nat) : Prop := Cond.methodLink own idx Lib.Math.min.name ∈ kx_tb ∧ Cond.static Lib.Math.min.name ∈ kx_tb ∧ Cond.initialized "java/lang/Math" ∈ kx_tb ∧ Cond.code Lib.Math.min.name Lib.Math.min.code 2 (some .int) ∈ kx_tb
theorem kx_min {own : String} {cc : ByteArray} {nL dp : Nat} {F : kx_F} (C : kx_Ru own cc nL dp F) {pc : Nat} {L : List (Option Value)} {S : List Value} {h : kx_H} {idx : Nat} {x y v : Int32} (mw : kx_Mmin own idx) (hdp : 1 ≤ dp) (hcat : (S.map fun v => v.category).sum ≤ 8) (hv : (if y.toInt < x.toInt then y else x) = v) (d : decode cc pc = .ok (.invokestatic idx, 3)) (k : F (pc + 3) L (.int v :: S) h) : F pc L (.int y :: .int x :: S) h := by
  obtain ⟨p, l, e, R, s, m, args, below, meth, c, cells, slots, Q, D, ad, cA, A, ⟨hx, hb, hml, hown, hts⟩, hN, hK, hJ, hA, hR, rfl⟩ := C
  intro H locs ls hP hS hl
  obtain ⟨b1, b2, b3, b4⟩ := mw
  have hc2 := kx_cats (ad := ad) hcat
  refine va_mmin hx hb (by rw [hml]; exact hl.1.symm) hown (hts _ b1) (hts _ b2) (hts _ b3) (hts _ b4) (by omega) (by omega) hR.2.2.1 hR.2.2.2 d ?_
  rw [show (if y < x then y else x) = v by rw [← hv]; simp only [Int32.lt_iff_toInt_lt]]
  exact k H locs ls hP hS hl
theorem mm_X8_279 : kx_Mmin RX8 279 := ⟨kx_t1 412 (by decide +kernel) rfl, kx_t1 413 (by decide +kernel) rfl, kx_t1 12 (by decide +kernel) rfl, kx_t1 414 (by decide +kernel) rfl⟩
theorem mm_X8_284 : kx_Mmax RX8 284 := ⟨kx_t1 415 (by decide +kernel) rfl, kx_t1 416 (by decide +kernel) rfl, kx_t1 12 (by decide +kernel) rfl, kx_t1 417 (by decide +kernel) rfl⟩
theorem mm_X2_72 : kx_Mmin RX2 72 := ⟨kx_t1 460 (by decide +kernel) rfl, kx_t1 413 (by decide +kernel) rfl, kx_t1 12 (by decide +kernel) rfl, kx_t1 414 (by decide +kernel) rfl⟩
theorem mm_X6_58 : kx_Mmax RX6 58 := ⟨kx_t1 497 (by decide +kernel) rfl, kx_t1 416 (by decide +kernel) rfl, kx_t1 12 (by decide +kernel) rfl, kx_t1 417 (by decide +kernel) rfl⟩
theorem mm_X1_38 : kx_Mmin RX1 38 := ⟨kx_t1 529 (by decide +kernel) rfl, kx_t1 413 (by decide +kernel) rfl, kx_t1 12 (by decide +kernel) rfl, kx_t1 414 (by decide +kernel) rfl⟩
theorem mm_X0_85 : kx_Mmax RX0 85 := ⟨kx_t1 610 (by decide +kernel) rfl, kx_t1 416 (by decide +kernel) rfl, kx_t1 12 (by decide +kernel) rfl, kx_t1 417 (by decide +kernel) rfl⟩
theorem sp_max {a b : Nat} (ha : a < 2 ^ 31) (hb : b < 2 ^ 31) : (if (nI a).toInt < (nI b).toInt then nI b else nI a) = nI (max a b) := by
  rw [kx_T ha, kx_T hb]
  split
  · rw [Nat.max_eq_right (by omega)]
  · rw [Nat.max_eq_left (by omega)]
theorem sp_min {a b : Nat} (ha : a < 2 ^ 31) (hb : b < 2 ^ 31) : (if (nI b).toInt < (nI a).toInt then nI b else nI a) = nI (min a b) := by
  rw [kx_T ha, kx_T hb]
  split
  · rw [Nat.min_eq_right (by omega)]
  · rw [Nat.min_eq_left (by omega)]
end
section
def sp_by (k v : Nat) : Nat := if k = 2 then (if 7 < v then 9 else v + 2) else if k = 1 ∨ k = 3 then v - 1 else v
theorem sp_by_le {k v : Nat} (hv : v ≤ 9) : sp_by k v ≤ 9 := by
  unfold sp_by
  repeat' split
  all_goals omega
set_option maxHeartbeats 4000000 in
set_option maxRecDepth 100000 in
theorem m_X8_isWithin {h : kx_H} (v a b : Int32)  : kx_MI 1 yX8_isWithin cX8_isWithin 3 .boolean [.int v, .int a, .int b] h (fun r h1 => h1 = h ∧ r = if a.toInt ≤ v.toInt ∧ v.toInt ≤ b.toInt then 1 else 0) := by
  refine kx_mkI (own := RX8) (L0 := [some (.int v), some (.int a), some (.int b)]) rfl (by decide +kernel) (Nat.le_of_ble_eq_true rfl) rfl (fun F C hR => ?_)
  refine kx_ild0 (pc := 0) C dX8_isWithin_0 ?_
  refine kx_ild1 (pc := 1) C dX8_isWithin_1 ?_
  refine kx_icmp_ltI (pc := 2) C 14 dX8_isWithin_2 (by decide) (fun c2 => ?_) (fun c2 => ?_)
  · refine kx_iconst (pc := 14) C (v := nI 0) dX8_isWithin_14 (by decide) ?_
    exact hR dX8_isWithin_15 rfl ⟨rfl, by first | rw [if_neg (by omega)]; rfl | rw [if_pos (by omega)]; rfl⟩
  · refine kx_ild0 (pc := 5) C dX8_isWithin_5 ?_
    refine kx_ild2 (pc := 6) C dX8_isWithin_6 ?_
    refine kx_icmp_gtI (pc := 7) C 14 dX8_isWithin_7 (by decide) (fun c7 => ?_) (fun c7 => ?_)
    · refine kx_iconst (pc := 14) C (v := nI 0) dX8_isWithin_14 (by decide) ?_
      exact hR dX8_isWithin_15 rfl ⟨rfl, by first | rw [if_neg (by omega)]; rfl | rw [if_pos (by omega)]; rfl⟩
    · refine kx_iconst (pc := 10) C (v := nI 1) dX8_isWithin_10 (by decide) ?_
      refine kx_goto (pc := 11) C 15 dX8_isWithin_11 (by decide) ?_
      exact hR dX8_isWithin_15 rfl ⟨rfl, by first | rw [if_neg (by omega)]; rfl | rw [if_pos (by omega)]; rfl⟩
set_option maxHeartbeats 4000000 in
set_option maxRecDepth 100000 in
theorem m_X8_sortOf {h : kx_H} {v : Nat} (hv : v < 2 ^ 31) : kx_MI 1 yX8_sortOf cX8_sortOf 1 .int [.int (nI v)] h (fun r h1 => h1 = h ∧ r = nI (v / 3)) := by
  refine kx_mkI (own := RX8) (L0 := [some (.int (nI v))]) rfl (by decide +kernel) (Nat.le_of_ble_eq_true rfl) rfl (fun F C hR => ?_)
  refine kx_ild0 (pc := 0) C dX8_sortOf_0 ?_
  refine kx_iconst (pc := 1) C (v := nI 3) dX8_sortOf_1 (by decide) ?_
  refine kx_idivN (pc := 2) C (by omega) (by omega) (by omega) dX8_sortOf_2 ?_
  exact hR dX8_sortOf_3 rfl (⟨rfl, rfl⟩)
set_option maxHeartbeats 4000000 in
set_option maxRecDepth 100000 in
theorem m_X8_isSort {h : kx_H} (v : Int32)  : kx_MI 2 yX8_isSort cX8_isSort 1 .boolean [.int v] h (fun r h1 => h1 = h ∧ r = if 0 ≤ v.toInt ∧ v.toInt ≤ 3 then 1 else 0) := by
  refine kx_mkI (own := RX8) (L0 := [some (.int v)]) rfl (by decide +kernel) (Nat.le_of_ble_eq_true rfl) rfl (fun F C hR => ?_)
  refine kx_ild0 (pc := 0) C dX8_isSort_0 ?_
  refine kx_iconst (pc := 1) C (v := nI 0) dX8_isSort_1 (by decide) ?_
  refine kx_iconst (pc := 2) C (v := nI 3) dX8_isSort_2 (by decide) ?_
  refine kx_callSI3 (pc := 3) C cs_X8_75 (m_X8_isWithin _ _ _) (by decide) dX8_isSort_3 (Nat.le_of_ble_eq_true rfl) (fun r3 h3 q3 => ?_)
  obtain ⟨rfl, rfl⟩ := q3
  exact hR dX8_isSort_6 (kx_b01 _) ⟨rfl, rfl⟩
set_option maxHeartbeats 4000000 in
set_option maxRecDepth 100000 in
theorem m_X8_isSheet {h : kx_H} (v : Int32)  : kx_MI 2 yX8_isSheet cX8_isSheet 1 .boolean [.int v] h (fun r h1 => h1 = h ∧ r = if 0 ≤ v.toInt ∧ v.toInt ≤ 3 then 1 else 0) := by
  refine kx_mkI (own := RX8) (L0 := [some (.int v)]) rfl (by decide +kernel) (Nat.le_of_ble_eq_true rfl) rfl (fun F C hR => ?_)
  refine kx_ild0 (pc := 0) C dX8_isSheet_0 ?_
  refine kx_iconst (pc := 1) C (v := nI 0) dX8_isSheet_1 (by decide) ?_
  refine kx_iconst (pc := 2) C (v := nI 3) dX8_isSheet_2 (by decide) ?_
  refine kx_callSI3 (pc := 3) C cs_X8_75 (m_X8_isWithin _ _ _) (by decide) dX8_isSheet_3 (Nat.le_of_ble_eq_true rfl) (fun r3 h3 q3 => ?_)
  obtain ⟨rfl, rfl⟩ := q3
  exact hR dX8_isSheet_6 (kx_b01 _) ⟨rfl, rfl⟩
set_option maxHeartbeats 4000000 in
set_option maxRecDepth 100000 in
theorem m_X8_isSheetOfLane {h : kx_H} (v l : Int32)  : kx_MI 3 yX8_isSheetOfLane cX8_isSheetOfLane 2 .boolean [.int v, .int l] h (fun r h1 => h1 = h ∧ r = if (0 ≤ v.toInt ∧ v.toInt ≤ 3) ∧ 0 ≤ l.toInt ∧ l.toInt ≤ 2 then 1 else 0) := by
  refine kx_mkI (own := RX8) (L0 := [some (.int v), some (.int l)]) rfl (by decide +kernel) (Nat.le_of_ble_eq_true rfl) rfl (fun F C hR => ?_)
  refine kx_ild0 (pc := 0) C dX8_isSheetOfLane_0 ?_
  refine kx_callSI1 (pc := 1) C cs_X8_260 (m_X8_isSheet _) (by decide) dX8_isSheetOfLane_1 (Nat.le_of_ble_eq_true rfl) (fun r1 h1 q1 => ?_)
  obtain ⟨rfl, rfl⟩ := q1
  refine kx_if_eq (pc := 4) C 20 dX8_isSheetOfLane_4 (by decide) (fun c4 => ?_) (fun c4 => ?_)
  · refine kx_iconst (pc := 20) C (v := nI 0) dX8_isSheetOfLane_20 (by decide) ?_
    exact hR dX8_isSheetOfLane_21 rfl (⟨rfl, by first | rw [if_neg (fun q => kx_if0 c4 q.1)]; rfl | rw [if_neg (fun q => kx_if0 c13 q.2)]; rfl | rw [if_pos ⟨kx_if1 c4, kx_if1 c13⟩]; rfl⟩)
  · refine kx_ild1 (pc := 7) C dX8_isSheetOfLane_7 ?_
    refine kx_iconst (pc := 8) C (v := nI 0) dX8_isSheetOfLane_8 (by decide) ?_
    refine kx_iconst (pc := 9) C (v := nI 2) dX8_isSheetOfLane_9 (by decide) ?_
    refine kx_callSI3 (pc := 10) C cs_X8_75 (m_X8_isWithin _ _ _) (by decide) dX8_isSheetOfLane_10 (Nat.le_of_ble_eq_true rfl) (fun r10 h10 q10 => ?_)
    obtain ⟨rfl, rfl⟩ := q10
    refine kx_if_eq (pc := 13) C 20 dX8_isSheetOfLane_13 (by decide) (fun c13 => ?_) (fun c13 => ?_)
    · refine kx_iconst (pc := 20) C (v := nI 0) dX8_isSheetOfLane_20 (by decide) ?_
      exact hR dX8_isSheetOfLane_21 rfl (⟨rfl, by first | rw [if_neg (fun q => kx_if0 c4 q.1)]; rfl | rw [if_neg (fun q => kx_if0 c13 q.2)]; rfl | rw [if_pos ⟨kx_if1 c4, kx_if1 c13⟩]; rfl⟩)
    · refine kx_iconst (pc := 16) C (v := nI 1) dX8_isSheetOfLane_16 (by decide) ?_
      refine kx_goto (pc := 17) C 21 dX8_isSheetOfLane_17 (by decide) ?_
      exact hR dX8_isSheetOfLane_21 rfl (⟨rfl, by first | rw [if_neg (fun q => kx_if0 c4 q.1)]; rfl | rw [if_neg (fun q => kx_if0 c13 q.2)]; rfl | rw [if_pos ⟨kx_if1 c4, kx_if1 c13⟩]; rfl⟩)
set_option maxHeartbeats 4000000 in
set_option maxRecDepth 100000 in
theorem m_X8_duller {h : kx_H} {v : Nat} (hv : v < 2 ^ 31) : kx_MI 1 yX8_duller cX8_duller 1 .int [.int (nI v)] h (fun r h1 => h1 = h ∧ r = nI (v - 1)) := by
  refine kx_mkI (own := RX8) (L0 := [some (.int (nI v))]) rfl (by decide +kernel) (Nat.le_of_ble_eq_true rfl) rfl (fun F C hR => ?_)
  refine kx_ild0 (pc := 0) C dX8_duller_0 ?_
  first | refine kx_if_leN (pc := 1) C 10 (by omega) dX8_duller_1 (by decide) (fun c1 => ?_) (fun c1 => ?_) | refine kx_if_leI (pc := 1) C 10 dX8_duller_1 (by decide) (fun c1 => ?_) (fun c1 => ?_)
  · refine kx_iconst (pc := 10) C (v := nI 0) dX8_duller_10 (by decide) ?_
    exact hR dX8_duller_11 rfl (⟨rfl, by first | rfl | (subst c1; rfl)⟩)
  · refine kx_ild0 (pc := 4) C dX8_duller_4 ?_
    refine kx_iconst (pc := 5) C (v := nI 1) dX8_duller_5 (by decide) ?_
    first | refine kx_isubN (pc := 6) C (by omega) dX8_duller_6 ?_ | refine kx_isub (pc := 6) C dX8_duller_6 ?_
    refine kx_goto (pc := 7) C 11 dX8_duller_7 (by decide) ?_
    exact hR dX8_duller_11 rfl (⟨rfl, by first | rfl | (subst c1; rfl)⟩)
set_option maxHeartbeats 4000000 in
set_option maxRecDepth 100000 in
theorem m_X8_isRemembered {h : kx_H} {l e m : Nat} (hl : l ≤ e) (he : e < 2 ^ 31) (hm : m < 2 ^ 31) : kx_MI 1 yX8_isRemembered cX8_isRemembered 3 .boolean [.int (nI l), .int (nI e), .int (nI m)] h (fun r h1 => h1 = h ∧ r = if 0 < l ∧ e ≤ l + m then 1 else 0) := by
  refine kx_mkI (own := RX8) (L0 := [some (.int (nI l)), some (.int (nI e)), some (.int (nI m))]) rfl (by decide +kernel) (Nat.le_of_ble_eq_true rfl) rfl (fun F C hR => ?_)
  refine kx_ild0 (pc := 0) C dX8_isRemembered_0 ?_
  first | refine kx_if_leN (pc := 1) C 15 (by omega) dX8_isRemembered_1 (by decide) (fun c1 => ?_) (fun c1 => ?_) | refine kx_if_leI (pc := 1) C 15 dX8_isRemembered_1 (by decide) (fun c1 => ?_) (fun c1 => ?_)
  · refine kx_iconst (pc := 15) C (v := nI 0) dX8_isRemembered_15 (by decide) ?_
    exact hR dX8_isRemembered_16 rfl ⟨rfl, by first | rw [if_neg (by omega)]; rfl | rw [if_pos (by omega)]; rfl⟩
  · refine kx_ild1 (pc := 4) C dX8_isRemembered_4 ?_
    refine kx_ild0 (pc := 5) C dX8_isRemembered_5 ?_
    first | refine kx_isubN (pc := 6) C (by omega) dX8_isRemembered_6 ?_ | refine kx_isub (pc := 6) C dX8_isRemembered_6 ?_
    refine kx_ild2 (pc := 7) C dX8_isRemembered_7 ?_
    first | refine kx_icmp_gtN (pc := 8) C 15 (by omega) (by omega) dX8_isRemembered_8 (by decide) (fun c8 => ?_) (fun c8 => ?_) | refine kx_icmp_gtI (pc := 8) C 15 dX8_isRemembered_8 (by decide) (fun c8 => ?_) (fun c8 => ?_)
    · refine kx_iconst (pc := 15) C (v := nI 0) dX8_isRemembered_15 (by decide) ?_
      exact hR dX8_isRemembered_16 rfl ⟨rfl, by first | rw [if_neg (by omega)]; rfl | rw [if_pos (by omega)]; rfl⟩
    · refine kx_iconst (pc := 11) C (v := nI 1) dX8_isRemembered_11 (by decide) ?_
      refine kx_goto (pc := 12) C 16 dX8_isRemembered_12 (by decide) ?_
      exact hR dX8_isRemembered_16 rfl ⟨rfl, by first | rw [if_neg (by omega)]; rfl | rw [if_pos (by omega)]; rfl⟩
theorem sp_by_min {k v : Nat} (hv : v ≤ 9) (h : k = 2) : (if (nI (v + 2)).toInt < (nI 9).toInt then nI (v + 2) else nI 9) = nI (sp_by k v) := by
  rw [sp_min (by omega) (by omega), sp_by, if_pos h]
  congr 1
  split <;> omega
theorem sp_by_max {k v : Nat} (hv : v ≤ 9) (h0 : 0 < k) (hk : k ≤ 3) (h : ¬ k = 2) : (if (nI 0).toInt < (nI v - nI 1).toInt then nI v - nI 1 else nI 0) = nI (sp_by k v) := by
  rw [kx_Ts (by omega) (by omega), sp_by, if_neg h, if_pos (by omega : k = 1 ∨ k = 3), show (nI 0).toInt = 0 from rfl]
  split
  · rw [pk_sub (by omega)]
  · rw [show v - 1 = 0 by omega]
set_option maxHeartbeats 4000000 in
set_option maxRecDepth 100000 in
theorem m_X8_asToldBy {h : kx_H} {k v : Nat} (hk : k ≤ 3) (hv : v ≤ 9) : kx_MI 2 yX8_asToldBy cX8_asToldBy 2 .int [.int (nI k), .int (nI v)] h (fun r h1 => h1 = h ∧ r = nI (sp_by k v)) := by
  refine kx_mkI (own := RX8) (L0 := [some (.int (nI k)), some (.int (nI v))]) rfl (by decide +kernel) (Nat.le_of_ble_eq_true rfl) rfl (fun F C hR => ?_)
  refine kx_ild0 (pc := 0) C dX8_asToldBy_0 ?_
  refine kx_if_neN (pc := 1) C 6 (by omega) dX8_asToldBy_1 (by decide) (fun c1 => ?_) (fun c1 => ?_)
  · refine kx_ild0 (pc := 6) C dX8_asToldBy_6 ?_
    refine kx_iconst (pc := 7) C (v := nI 2) dX8_asToldBy_7 (by decide) ?_
    refine kx_icmp_neN (pc := 8) C 22 (by omega) (by omega) dX8_asToldBy_8 (by decide) (fun c8 => ?_) (fun c8 => ?_)
    · refine kx_iconst (pc := 22) C (v := nI 0) dX8_asToldBy_22 (by decide) ?_
      refine kx_ild1 (pc := 23) C dX8_asToldBy_23 ?_
      refine kx_iconst (pc := 24) C (v := nI 1) dX8_asToldBy_24 (by decide) ?_
      refine kx_isub (pc := 25) C dX8_asToldBy_25 ?_
      refine kx_max (pc := 26) C mm_X8_284 (by decide) (Nat.le_of_ble_eq_true rfl) (sp_by_max hv c1 hk c8) dX8_asToldBy_26 ?_
      exact hR dX8_asToldBy_29 rfl (⟨rfl, rfl⟩)
    · refine kx_bipush (pc := 11) C (v := nI 9) dX8_asToldBy_11 (by decide) ?_
      refine kx_ild1 (pc := 13) C dX8_asToldBy_13 ?_
      refine kx_iconst (pc := 14) C (v := nI 2) dX8_asToldBy_14 (by decide) ?_
      refine kx_iaddN (pc := 15) C dX8_asToldBy_15 ?_
      refine kx_min (pc := 16) C mm_X8_279 (by decide) (Nat.le_of_ble_eq_true rfl) (sp_by_min hv c8) dX8_asToldBy_16 ?_
      refine kx_goto (pc := 19) C 29 dX8_asToldBy_19 (by decide) ?_
      exact hR dX8_asToldBy_29 rfl (⟨rfl, rfl⟩)
  · refine kx_ild1 (pc := 4) C dX8_asToldBy_4 ?_
    exact hR dX8_asToldBy_5 rfl ⟨rfl, by subst c1; rfl⟩
set_option maxHeartbeats 4000000 in
set_option maxRecDepth 100000 in
theorem m_X8_firstOrCount {h : kx_H} (c f w : Int32)  : kx_MI 1 yX8_firstOrCount cX8_firstOrCount 3 .int [.int c, .int f, .int w] h (fun r h1 => h1 = h ∧ r = if w = 0 then c else if c = 0 then -4 else f) := by
  refine kx_mkI (own := RX8) (L0 := [some (.int c), some (.int f), some (.int w)]) rfl (by decide +kernel) (Nat.le_of_ble_eq_true rfl) rfl (fun F C hR => ?_)
  refine kx_ild2 (pc := 0) C dX8_firstOrCount_0 ?_
  refine kx_if_ne (pc := 1) C 6 dX8_firstOrCount_1 (by decide) (fun c1 => ?_) (fun c1 => ?_)
  · refine kx_ild0 (pc := 6) C dX8_firstOrCount_6 ?_
    refine kx_if_ne (pc := 7) C 15 dX8_firstOrCount_7 (by decide) (fun c7 => ?_) (fun c7 => ?_)
    · refine kx_ild1 (pc := 15) C dX8_firstOrCount_15 ?_
      exact hR dX8_firstOrCount_16 rfl (⟨rfl, by simp_all⟩)
    · refine kx_bipush (pc := 10) C (v := -4) dX8_firstOrCount_10 (by decide) ?_
      refine kx_goto (pc := 12) C 16 dX8_firstOrCount_12 (by decide) ?_
      exact hR dX8_firstOrCount_16 rfl (⟨rfl, by simp_all⟩)
  · refine kx_ild0 (pc := 4) C dX8_firstOrCount_4 ?_
    exact hR dX8_firstOrCount_5 rfl (⟨rfl, by simp_all⟩)
set_option maxHeartbeats 4000000 in
set_option maxRecDepth 100000 in
theorem m_X8_areSame {h : kx_H} {a b n na nb : Nat} (ha : kx_ia a na) (hb : kx_ia b nb) (h1 : n ≤ na) (h2 : n ≤ nb) : kx_MI 1 yX8_areSame cX8_areSame 4 .boolean [.ref a, .ref b, .int (nI n)] h (fun r h1 => h1 = h ∧ r = if ∀ i, i < n → h a i = h b i then 1 else 0) := by
  refine kx_mkI (own := RX8) (L0 := [some (.ref a), some (.ref b), some (.int (nI n)), none]) rfl (by decide +kernel) (Nat.le_of_ble_eq_true rfl) rfl (fun F C hR => ?_)
  have hn : n < 1000 := Nat.lt_of_le_of_lt h1 ha.2.2.2
  have loop : ∀ (k i : Nat), n - i = k → i ≤ n → (∀ j, j < i → h a j = h b j) → F 2 [some (.ref a), some (.ref b), some (.int (nI n)), some (.int (nI i))] [] h := by
    intro k
    induction k with
    | zero =>
      intro i hk hi hj
      refine kx_ild3 (pc := 2) C dX8_areSame_2 ?_
      refine kx_ild2 (pc := 3) C dX8_areSame_3 ?_
      refine kx_icmp_geN (pc := 4) C 24 (by omega) (by omega) dX8_areSame_4 (by decide) (fun c4 => ?_) (fun c4 => ?_)
      · refine kx_iconst (pc := 24) C (v := nI 1) dX8_areSame_24 (by decide) ?_
        exact hR dX8_areSame_25 rfl ⟨rfl, by rw [if_pos (fun j q => hj j (by omega))]; rfl⟩
      · omega
    | succ k ih =>
      intro i hk hi hj
      refine kx_ild3 (pc := 2) C dX8_areSame_2 ?_
      refine kx_ild2 (pc := 3) C dX8_areSame_3 ?_
      refine kx_icmp_geN (pc := 4) C 24 (by omega) (by omega) dX8_areSame_4 (by decide) (fun c4 => ?_) (fun c4 => ?_)
      · omega
      · refine kx_ald0 (pc := 7) C dX8_areSame_7 ?_
        refine kx_ild3 (pc := 8) C dX8_areSame_8 ?_
        refine kx_iald (pc := 9) C ha (by omega) (by first | assumption | rfl) dX8_areSame_9 ?_
        refine kx_ald1 (pc := 10) C dX8_areSame_10 ?_
        refine kx_ild3 (pc := 11) C dX8_areSame_11 ?_
        refine kx_iald (pc := 12) C hb (by omega) (by first | assumption | rfl) dX8_areSame_12 ?_
        refine kx_icmp_eq (pc := 13) C 18 dX8_areSame_13 (by decide) (fun c13 => ?_) (fun c13 => ?_)
        · first | refine kx_inc3 (pc := 18) C (v := nI (_ + 1)) dX8_areSame_18 (by decide) rfl (nI_1 _) ?_ | refine kx_inc3 (pc := 18) C dX8_areSame_18 (by decide) rfl rfl ?_
          refine kx_goto (pc := 21) C 2 dX8_areSame_21 (by decide) ?_
          exact ih (i + 1) (by omega) (by omega) (fun j q => by rcases Nat.lt_or_ge j i with z | z; exact hj j z; rw [show j = i by omega]; exact c13)
        · refine kx_iconst (pc := 16) C (v := nI 0) dX8_areSame_16 (by decide) ?_
          exact hR dX8_areSame_17 rfl ⟨rfl, by rw [if_neg (fun q => c13 (q i (by omega)))]; rfl⟩
  refine kx_iconst (pc := 0) C (v := nI 0) dX8_areSame_0 (by decide) ?_
  refine kx_ist3 (pc := 1) C dX8_areSame_1 (by decide) rfl ?_
  exact loop n 0 (by omega) (by omega) (fun j q => absurd q (by omega))
def sp_ix (k n i : Nat) : Nat := if k = 3 then n - 1 - i else i
set_option maxHeartbeats 4000000 in
set_option maxRecDepth 100000 in
theorem m_X8_retell {h : kx_H} {k a b n na nb : Nat} {f : Nat → Nat} (hk : k ≤ 3) (ha : kx_ia a na) (hb : kx_ia b nb) (h1 : n ≤ na) (h2 : n ≤ nb) (hab : a ≠ b) (hf : ∀ j, j < n → h a j = nI (f j)) (hf9 : ∀ j, j < n → f j ≤ 9) : kx_MV 3 yX8_retell cX8_retell 5 [.int (nI k), .ref a, .ref b, .int (nI n)] h (fun h1 => (∀ i, i < n → h1 b i = nI (sp_by k (f (sp_ix k n i)))) ∧ ∀ c j, (c ≠ b ∨ n ≤ j) → h1 c j = h c j) := by
  refine kx_mkV (own := RX8) (L0 := [some (.int (nI k)), some (.ref a), some (.ref b), some (.int (nI n)), none]) rfl (by decide +kernel) (Nat.le_of_ble_eq_true rfl) rfl (fun F C hR => ?_)
  have hn : n < 1000 := Nat.lt_of_le_of_lt h1 ha.2.2.2
  have loop : ∀ (q i : Nat) (g : kx_H), n - i = q → i ≤ n → (∀ j, j < i → g b j = nI (sp_by k (f (sp_ix k n j)))) → (∀ c j, (c ≠ b ∨ i ≤ j) → g c j = h c j) → F 3 [some (.int (nI k)), some (.ref a), some (.ref b), some (.int (nI n)), some (.int (nI i))] [] g := by
    intro q
    induction q with
    | zero =>
      intro i g hq hi hj hg
      refine kx_ild4 (pc := 3) C dX8_retell_3 ?_
      refine kx_ild3 (pc := 5) C dX8_retell_5 ?_
      refine kx_icmp_geN (pc := 6) C 41 (by omega) (by omega) dX8_retell_6 (by decide) (fun c6 => ?_) (fun c6 => ?_)
      · exact hR dX8_retell_41 ⟨fun j z => hj j (by omega), fun c j z => hg c j (by omega)⟩
      · omega
    | succ q ih =>
      intro i g hq hi hj hg
      have key : ∀ x, x < n → x = sp_ix k n i → F 30 [some (.int (nI k)), some (.ref a), some (.ref b), some (.int (nI n)), some (.int (nI i))] [.int (nI x), .ref a, .int (nI k), .int (nI i), .ref b] g := by
        intro x hx e
        have hv : g a x = nI (f x) := by rw [hg a x (Or.inl hab)]; exact hf x hx
        have hv9 := hf9 x hx
        refine kx_iald (pc := 30) C ha (by omega) (by first | assumption | rfl) dX8_retell_30 ?_
        refine kx_callSI2 (pc := 31) C cs_X8_287 (m_X8_asToldBy hk hv9) (by decide) dX8_retell_31 (Nat.le_of_ble_eq_true rfl) (fun r31 h31 q31 => ?_)
        obtain ⟨rfl, rfl⟩ := q31
        refine kx_iast (pc := 34) C hb (by omega) dX8_retell_34 ?_
        first | refine kx_inc4 (pc := 35) C (v := nI (_ + 1)) dX8_retell_35 (by decide) rfl (nI_1 _) ?_ | refine kx_inc4 (pc := 35) C dX8_retell_35 (by decide) rfl rfl ?_
        refine kx_goto (pc := 38) C 3 dX8_retell_38 (by decide) ?_
        refine ih (i + 1) _ (by omega) (by omega) (fun j z => ?_) (fun c j z => ?_)
        · by_cases hji : j = i
          · subst hji
            simp [kx_up, e]
          · simp only [kx_up, hji, and_false, if_false]
            exact hj j (by omega)
        · have : ¬ (c = b ∧ j = i) := by omega
          simp only [kx_up, this, if_false]
          exact hg c j (by omega)
      refine kx_ild4 (pc := 3) C dX8_retell_3 ?_
      refine kx_ild3 (pc := 5) C dX8_retell_5 ?_
      refine kx_icmp_geN (pc := 6) C 41 (by omega) (by omega) dX8_retell_6 (by decide) (fun c6 => ?_) (fun c6 => ?_)
      · omega
      · refine kx_ald2 (pc := 9) C dX8_retell_9 ?_
        refine kx_ild4 (pc := 10) C dX8_retell_10 ?_
        refine kx_ild0 (pc := 12) C dX8_retell_12 ?_
        refine kx_ald1 (pc := 13) C dX8_retell_13 ?_
        refine kx_ild0 (pc := 14) C dX8_retell_14 ?_
        refine kx_iconst (pc := 15) C (v := nI 3) dX8_retell_15 (by decide) ?_
        refine kx_icmp_neN (pc := 16) C 28 (by omega) (by omega) dX8_retell_16 (by decide) (fun c16 => ?_) (fun c16 => ?_)
        · refine kx_ild4 (pc := 28) C dX8_retell_28 ?_
          exact key _ (by omega) (by unfold sp_ix; split <;> omega)
        · refine kx_ild3 (pc := 19) C dX8_retell_19 ?_
          refine kx_iconst (pc := 20) C (v := nI 1) dX8_retell_20 (by decide) ?_
          refine kx_isubN (pc := 21) C (by omega) dX8_retell_21 ?_
          refine kx_ild4 (pc := 22) C dX8_retell_22 ?_
          refine kx_isubN (pc := 24) C (by omega) dX8_retell_24 ?_
          refine kx_goto (pc := 25) C 30 dX8_retell_25 (by decide) ?_
          exact key _ (by omega) (by unfold sp_ix; split <;> omega)
  refine kx_iconst (pc := 0) C (v := nI 0) dX8_retell_0 (by decide) ?_
  refine kx_ist4 (pc := 1) C dX8_retell_1 (by decide) rfl ?_
  exact loop n 0 h (by omega) (by omega) (fun j z => absurd z (by omega)) (fun c j z => rfl)
set_option maxHeartbeats 4000000 in
set_option maxRecDepth 100000 in
theorem m_J6_bitCount_0f7a4 {h : kx_H} {s : Nat} (hs : s < 16) : kx_MI 1 yJ6_bitCount_0f7a4 cJ6_bitCount_0f7a4 1 .int [.int (nI s)] h (fun r h1 => h1 = h ∧ r = nI (s % 2 + s / 2 % 2 + s / 4 % 2 + s / 8 % 2)) := by
  refine kx_mkI (own := RJ6) (L0 := [some (.int (nI s))]) rfl (by decide +kernel) (Nat.le_of_ble_eq_true rfl) rfl (fun F C hR => ?_)
  refine kx_ild0 (pc := 0) C dJ6_bitCount_0f7a4_0 ?_
  refine kx_ild0 (pc := 1) C dJ6_bitCount_0f7a4_1 ?_
  refine kx_iconst (pc := 2) C (v := nI 1) dJ6_bitCount_0f7a4_2 (by decide) ?_
  refine kx_iushr (pc := 3) C dJ6_bitCount_0f7a4_3 ?_
  refine kx_ldcw (pc := 4) C dJ6_bitCount_0f7a4_4 cn_J6_265 ?_
  refine kx_iand (pc := 7) C dJ6_bitCount_0f7a4_7 ?_
  refine kx_isub (pc := 8) C dJ6_bitCount_0f7a4_8 ?_
  refine kx_ist0 (pc := 9) C dJ6_bitCount_0f7a4_9 (by decide) rfl ?_
  refine kx_ild0 (pc := 10) C dJ6_bitCount_0f7a4_10 ?_
  refine kx_ldcw (pc := 11) C dJ6_bitCount_0f7a4_11 cn_J6_266 ?_
  refine kx_iand (pc := 14) C dJ6_bitCount_0f7a4_14 ?_
  refine kx_ild0 (pc := 15) C dJ6_bitCount_0f7a4_15 ?_
  refine kx_iconst (pc := 16) C (v := nI 2) dJ6_bitCount_0f7a4_16 (by decide) ?_
  refine kx_iushr (pc := 17) C dJ6_bitCount_0f7a4_17 ?_
  refine kx_ldcw (pc := 18) C dJ6_bitCount_0f7a4_18 cn_J6_266 ?_
  refine kx_iand (pc := 21) C dJ6_bitCount_0f7a4_21 ?_
  refine kx_iadd (pc := 22) C dJ6_bitCount_0f7a4_22 ?_
  refine kx_ist0 (pc := 23) C dJ6_bitCount_0f7a4_23 (by decide) rfl ?_
  refine kx_ild0 (pc := 24) C dJ6_bitCount_0f7a4_24 ?_
  refine kx_ild0 (pc := 25) C dJ6_bitCount_0f7a4_25 ?_
  refine kx_iconst (pc := 26) C (v := nI 4) dJ6_bitCount_0f7a4_26 (by decide) ?_
  refine kx_iushr (pc := 27) C dJ6_bitCount_0f7a4_27 ?_
  refine kx_iadd (pc := 28) C dJ6_bitCount_0f7a4_28 ?_
  refine kx_ldcw (pc := 29) C dJ6_bitCount_0f7a4_29 cn_J6_267 ?_
  refine kx_iand (pc := 32) C dJ6_bitCount_0f7a4_32 ?_
  refine kx_ist0 (pc := 33) C dJ6_bitCount_0f7a4_33 (by decide) rfl ?_
  refine kx_ild0 (pc := 34) C dJ6_bitCount_0f7a4_34 ?_
  refine kx_ild0 (pc := 35) C dJ6_bitCount_0f7a4_35 ?_
  refine kx_bipush (pc := 36) C (v := nI 8) dJ6_bitCount_0f7a4_36 (by decide) ?_
  refine kx_iushr (pc := 38) C dJ6_bitCount_0f7a4_38 ?_
  refine kx_iadd (pc := 39) C dJ6_bitCount_0f7a4_39 ?_
  refine kx_ist0 (pc := 40) C dJ6_bitCount_0f7a4_40 (by decide) rfl ?_
  refine kx_ild0 (pc := 41) C dJ6_bitCount_0f7a4_41 ?_
  refine kx_ild0 (pc := 42) C dJ6_bitCount_0f7a4_42 ?_
  refine kx_bipush (pc := 43) C (v := nI 16) dJ6_bitCount_0f7a4_43 (by decide) ?_
  refine kx_iushr (pc := 45) C dJ6_bitCount_0f7a4_45 ?_
  refine kx_iadd (pc := 46) C dJ6_bitCount_0f7a4_46 ?_
  refine kx_ist0 (pc := 47) C dJ6_bitCount_0f7a4_47 (by decide) rfl ?_
  refine kx_ild0 (pc := 48) C dJ6_bitCount_0f7a4_48 ?_
  refine kx_bipush (pc := 49) C (v := nI 63) dJ6_bitCount_0f7a4_49 (by decide) ?_
  refine kx_iand (pc := 51) C dJ6_bitCount_0f7a4_51 ?_
  exact hR dJ6_bitCount_0f7a4_52 rfl ⟨rfl, by clear hR; clear C; revert s; decide +kernel⟩
end
section
theorem kx_ifc {c d : Prop} [Decidable c] [Decidable d] (h : c ↔ d) : (if c then (1 : Int32) else 0) = if d then 1 else 0 := by
  by_cases q : c
  · rw [if_pos q, if_pos (h.mp q)]
  · rw [if_neg q, if_neg (fun z => q (h.mpr z))]
theorem kx_sh31 : ∀ s, s < 32 → nI s &&& 31 = nI s := by decide +kernel
theorem kx_smod : ∀ s, s < 32 → ((nI s).toBitVec.smod 32).toNat = s := by decide +kernel
theorem kx_shr {x s : Nat} (hx : x < 2 ^ 31) (hs : s < 31) : nI x >>> (nI s &&& 31) = nI (x / 2 ^ s) := by
  rw [kx_sh31 s (by omega)]
  exact pk_shrN hx (nI s) s (kx_smod s (by omega))
theorem kx_bit {x s : Nat} (hx : x < 2 ^ 31) (hs : s < 31) : (nI x >>> (nI s &&& 31)) &&& nI 1 = nI (x / 2 ^ s % 2) := by
  rw [kx_shr hx hs]
  have h := pk_andN (n := x / 2 ^ s) (Nat.lt_of_le_of_lt (Nat.div_le_self _ _) (by omega)) (m := nI 1) 1 (by decide)
  simpa using h
theorem kx_sl1 {s : Nat} (hs : s < 31) : nI 1 <<< (nI s &&& 31) = nI (2 ^ s) := by
  rw [kx_sh31 s (by omega)]
  have h2 : 1 * 2 ^ s < 2 ^ 32 := by
    have : 2 ^ s ≤ 2 ^ 31 := Nat.pow_le_pow_right (by decide) (by omega)
    omega
  have h := pk_shlN (n := 1) (nI s) s (kx_smod s (by omega)) h2
  rw [Nat.one_mul] at h
  exact h
/-! THE STATE: a hearth as numbers, in the reference's places: 0 tales, 1 tellers, 2 spinners, 3 evenings, 4 broken tale + 1 (0: none), 5 by, 6 told, 7 set, 8 memory, 9.. tensions, 81.. lengths, 89.. kinds, 93.. yards, 109.. heard -/
def st_RD (l t0 k0 : Nat) (h : kx_H) (a : Nat → Nat) : Prop := (∀ t, t < 8 → h l t = nI (a (81 + t))) ∧ (∀ t i, t < 8 → i < 9 → h (t0 + t) i = nI (a (9 + 9 * t + i))) ∧ ∀ e, e < 4 → h k0 e = nI (a (89 + e))
def st_SC (ob : Nat) (h : kx_H) (a : Nat → Nat) : Prop := h ob 0 = nI (a 0) ∧ h ob 1 = nI (a 1) ∧ h ob 2 = nI (a 2) ∧ h ob 3 = nI (a 3) ∧ h ob 4 = nI (a 8)
def st_YD (y0 : Nat) (h : kx_H) (a : Nat → Nat) : Prop := ∀ s k, s < 4 → k < 4 → h (y0 + s) k = nI (a (93 + 4 * s + k))
def st_HD (d0 : Nat) (h : kx_H) (a : Nat → Nat) : Prop := ∀ s t, s < 4 → t < 8 → h (d0 + s) t = nI (a (109 + 8 * s + t))
def st_BR (ob : Nat) (h : kx_H) (a : Nat → Nat) : Prop := (a 4 = 0 ∧ h ob 10 = -1) ∨ (0 < a 4 ∧ h ob 10 = nI (a 4 - 1) ∧ h ob 11 = nI (a 5) ∧ h ob 12 = nI (a 6) ∧ h ob 13 = nI (a 7))
/-- the class's hearth -/
def st_CH (h : kx_H) (a : Nat → Nat) : Prop := st_SC 1 h a ∧ st_RD 2 4 12 h a ∧ st_YD 14 h a ∧ st_HD 19 h a ∧ st_BR 1 h a
/-- what it keeps as an image -/
def st_CK (h : kx_H) (a : Nat → Nat) : Prop := st_SC 23 h a ∧ st_RD 24 26 34 h a ∧ st_YD 36 h a ∧ st_HD 41 h a ∧ st_BR 23 h a
def st_RB (a : Nat → Nat) : Prop := (∀ t, t < 8 → a (81 + t) ≤ 9) ∧ (∀ t i, t < 8 → i < 9 → a (9 + 9 * t + i) ≤ 9) ∧ ∀ e, e < 4 → a (89 + e) ≤ 3
/-- the numbers' bounds -/
def st_B (a : Nat → Nat) : Prop := (a 0 ≤ 8 ∧ a 1 ≤ 4 ∧ a 2 ≤ 4 ∧ a 3 ≤ 9999 ∧ 1 ≤ a 8 ∧ a 8 ≤ 99) ∧ st_RB a ∧ (∀ t, t < a 0 → 1 ≤ a (81 + t)) ∧ (∀ s k, s < 4 → k < 4 → a (93 + 4 * s + k) ≤ 9 * a 3) ∧ (∀ s t, s < 4 → t < 8 → a (109 + 8 * s + t) ≤ a 3) ∧ (∀ s, a 2 ≤ s → s < 4 → (∀ k, k < 4 → a (93 + 4 * s + k) = 0) ∧ ∀ t, t < 8 → a (109 + 8 * s + t) = 0) ∧ (0 < a 4 → a 4 ≤ a 0 ∧ a 5 < a 1 ∧ 1 ≤ a 6 ∧ a 6 < a (81 + (a 4 - 1)) ∧ a 7 < 16)
def sp_te (a : Nat → Nat) (e t i : Nat) : Nat := sp_by (a (89 + e)) (a (9 + 9 * t + sp_ix (a (89 + e)) (a (81 + t)) i))
def sp_mind (a : Nat → Nat) (s t ev : Nat) : Prop := 0 < a (109 + 8 * s + t) ∧ ev ≤ a (109 + 8 * s + t) + a 8
theorem sp_te_le {a : Nat → Nat} (hb : st_RB a) {e t i : Nat} (ht : t < 8) (hi : i < a (81 + t)) : sp_te a e t i ≤ 9 := by
  have h1 := hb.1 t ht
  have : sp_ix (a (89 + e)) (a (81 + t)) i < 9 := by unfold sp_ix; split <;> omega
  exact sp_by_le (hb.2.1 t _ ht this)
def sp_so (m : Nat) (v : Nat) : Nat := if m = 0 then v / 3 else v / 3 - 1
theorem sp_so_lt {m v : Nat} (h : v ≤ 9) : sp_so m v < 4 := by unfold sp_so; split <;> omega
/-- how many of f from, .. , f (from + n - 1) are k -/
def sp_cn (f : Nat → Nat) (k fr : Nat) : Nat → Nat
  | 0 => 0
  | n + 1 => sp_cn f k fr n + if f (fr + n) = k then 1 else 0
theorem sp_cn_le (f : Nat → Nat) (k fr : Nat) : ∀ n, sp_cn f k fr n ≤ n
  | 0 => Nat.le_refl 0
  | n + 1 => by have := sp_cn_le f k fr n; unfold sp_cn; split <;> omega

set_option maxHeartbeats 4000000 in
set_option maxRecDepth 100000 in
theorem m_X2_hasTale {h : kx_H} {a : Nat → Nat} (v : Int32) (hT : h 1 0 = nI (a 0)) (hb : a 0 ≤ 8) : kx_MI 2 yX2_hasTale cX2_hasTale 2 .boolean [.ref 1, .int v] h (fun r h1 => h1 = h ∧ r = if 0 ≤ v.toInt ∧ v.toInt < (a 0 : Int) then 1 else 0) := by
  refine kx_mkI (own := RX2) (L0 := [some (.ref 1), some (.int v)]) rfl (by decide +kernel) (Nat.le_of_ble_eq_true rfl) rfl (fun F C hR => ?_)
  refine kx_ild1 (pc := 0) C dX2_hasTale_0 ?_
  refine kx_iconst (pc := 1) C (v := nI 0) dX2_hasTale_1 (by decide) ?_
  refine kx_ald0 (pc := 2) C dX2_hasTale_2 ?_
  refine kx_geti (pc := 3) C fl_X2_36 fd_1_0 (by first | assumption | rfl) dX2_hasTale_3 ?_
  refine kx_iconst (pc := 6) C (v := nI 1) dX2_hasTale_6 (by decide) ?_
  refine kx_isub (pc := 7) C dX2_hasTale_7 ?_
  refine kx_callNI3 (pc := 8) C cs_X2_39 (m_X8_isWithin _ _ _) (by decide) dX2_hasTale_8 (Nat.le_of_ble_eq_true rfl) (fun r8 h8 q8 => ?_)
  obtain ⟨rfl, rfl⟩ := q8
  exact hR dX2_hasTale_11 (kx_b01 _) ⟨rfl, kx_ifc (by rw [kx_Ts (by omega) (by omega), show (nI 0).toInt = 0 from rfl]; omega)⟩
set_option maxHeartbeats 4000000 in
set_option maxRecDepth 100000 in
theorem m_X2_hasTeller {h : kx_H} {a : Nat → Nat} (v : Int32) (hT : h 1 1 = nI (a 1)) (hb : a 1 ≤ 8) : kx_MI 2 yX2_hasTeller cX2_hasTeller 2 .boolean [.ref 1, .int v] h (fun r h1 => h1 = h ∧ r = if 0 ≤ v.toInt ∧ v.toInt < (a 1 : Int) then 1 else 0) := by
  refine kx_mkI (own := RX2) (L0 := [some (.ref 1), some (.int v)]) rfl (by decide +kernel) (Nat.le_of_ble_eq_true rfl) rfl (fun F C hR => ?_)
  refine kx_ild1 (pc := 0) C dX2_hasTeller_0 ?_
  refine kx_iconst (pc := 1) C (v := nI 0) dX2_hasTeller_1 (by decide) ?_
  refine kx_ald0 (pc := 2) C dX2_hasTeller_2 ?_
  refine kx_geti (pc := 3) C fl_X2_47 fd_1_1 (by first | assumption | rfl) dX2_hasTeller_3 ?_
  refine kx_iconst (pc := 6) C (v := nI 1) dX2_hasTeller_6 (by decide) ?_
  refine kx_isub (pc := 7) C dX2_hasTeller_7 ?_
  refine kx_callNI3 (pc := 8) C cs_X2_39 (m_X8_isWithin _ _ _) (by decide) dX2_hasTeller_8 (Nat.le_of_ble_eq_true rfl) (fun r8 h8 q8 => ?_)
  obtain ⟨rfl, rfl⟩ := q8
  exact hR dX2_hasTeller_11 (kx_b01 _) ⟨rfl, kx_ifc (by rw [kx_Ts (by omega) (by omega), show (nI 0).toInt = 0 from rfl]; omega)⟩
set_option maxHeartbeats 4000000 in
set_option maxRecDepth 100000 in
theorem m_X2_hasSpinner {h : kx_H} {a : Nat → Nat} (v : Int32) (hT : h 1 2 = nI (a 2)) (hb : a 2 ≤ 8) : kx_MI 2 yX2_hasSpinner cX2_hasSpinner 2 .boolean [.ref 1, .int v] h (fun r h1 => h1 = h ∧ r = if 0 ≤ v.toInt ∧ v.toInt < (a 2 : Int) then 1 else 0) := by
  refine kx_mkI (own := RX2) (L0 := [some (.ref 1), some (.int v)]) rfl (by decide +kernel) (Nat.le_of_ble_eq_true rfl) rfl (fun F C hR => ?_)
  refine kx_ild1 (pc := 0) C dX2_hasSpinner_0 ?_
  refine kx_iconst (pc := 1) C (v := nI 0) dX2_hasSpinner_1 (by decide) ?_
  refine kx_ald0 (pc := 2) C dX2_hasSpinner_2 ?_
  refine kx_geti (pc := 3) C fl_X2_50 fd_1_2 (by first | assumption | rfl) dX2_hasSpinner_3 ?_
  refine kx_iconst (pc := 6) C (v := nI 1) dX2_hasSpinner_6 (by decide) ?_
  refine kx_isub (pc := 7) C dX2_hasSpinner_7 ?_
  refine kx_callNI3 (pc := 8) C cs_X2_39 (m_X8_isWithin _ _ _) (by decide) dX2_hasSpinner_8 (Nat.le_of_ble_eq_true rfl) (fun r8 h8 q8 => ?_)
  obtain ⟨rfl, rfl⟩ := q8
  exact hR dX2_hasSpinner_11 (kx_b01 _) ⟨rfl, kx_ifc (by rw [kx_Ts (by omega) (by omega), show (nI 0).toInt = 0 from rfl]; omega)⟩
set_option maxHeartbeats 4000000 in
set_option maxRecDepth 100000 in
theorem m_X2_hasSentence {h : kx_H} {a : Nat → Nat} (t i : Int32) (hT : h 1 0 = nI (a 0)) (hb : a 0 ≤ 8) (hlen : ∀ t, t < 8 → h 2 t = nI (a (81 + t))) (hl9 : ∀ t, t < 8 → a (81 + t) ≤ 9) : kx_MI 3 yX2_hasSentence cX2_hasSentence 3 .boolean [.ref 1, .int t, .int i] h (fun r h1 => h1 = h ∧ r = if (0 ≤ t.toInt ∧ t.toInt < (a 0 : Int)) ∧ 0 ≤ i.toInt ∧ i.toInt < (a (81 + t.toInt.toNat) : Int) then 1 else 0) := by
  refine kx_mkI (own := RX2) (L0 := [some (.ref 1), some (.int t), some (.int i)]) rfl (by decide +kernel) (Nat.le_of_ble_eq_true rfl) rfl (fun F C hR => ?_)
  refine kx_ald0 (pc := 0) C dX2_hasSentence_0 ?_
  refine kx_ild1 (pc := 1) C dX2_hasSentence_1 ?_
  refine kx_callVI1 (pc := 2) C cs_X2_43 ob_1 (m_X2_hasTale _ (by assumption) (by omega)) (by decide) dX2_hasSentence_2 (Nat.le_of_ble_eq_true rfl) (fun r2 h2 q2 => ?_)
  obtain ⟨rfl, rfl⟩ := q2
  refine kx_if_eq (pc := 5) C 28 dX2_hasSentence_5 (by decide) (fun c5 => ?_) (fun c5 => ?_)
  · refine kx_iconst (pc := 28) C (v := nI 0) dX2_hasSentence_28 (by decide) ?_
    first
      | exact hR dX2_hasSentence_29 rfl ⟨rfl, by rw [if_neg (fun q => kx_if0 c5 q.1)]; rfl⟩
      | (simp only [kx_Ts (show a (81 + j) < 2 ^ 30 by omega) (show 1 < 2 ^ 30 by omega), show (nI 0).toInt = 0 from rfl] at c21
         rw [hj] at c5
         first
           | exact hR dX2_hasSentence_29 rfl ⟨rfl, by rw [if_neg (fun q => kx_if0 c21 (by have := q.2; rw [hj, Int.toNat_natCast] at this; omega))]; rfl⟩
           | exact hR dX2_hasSentence_29 rfl ⟨rfl, by rw [if_pos ⟨by omega, by have := kx_if1 c21; rw [hj, Int.toNat_natCast]; omega⟩]; rfl⟩)
  · have c5 := kx_if1 c5
    obtain ⟨j, rfl, hj, hj2⟩ := kx_nat c5.1
    have hl := hl9 j (by omega)
    refine kx_ild2 (pc := 8) C dX2_hasSentence_8 ?_
    refine kx_iconst (pc := 9) C (v := nI 0) dX2_hasSentence_9 (by decide) ?_
    refine kx_ald0 (pc := 10) C dX2_hasSentence_10 ?_
    refine kx_getr (pc := 11) C fl_X2_15 fd_1_5 dX2_hasSentence_11 ?_
    refine kx_ild1 (pc := 14) C dX2_hasSentence_14 ?_
    refine kx_iald (pc := 15) C ia_2 (by omega) (hlen _ (by omega)) dX2_hasSentence_15 ?_
    refine kx_iconst (pc := 16) C (v := nI 1) dX2_hasSentence_16 (by decide) ?_
    refine kx_isub (pc := 17) C dX2_hasSentence_17 ?_
    refine kx_callNI3 (pc := 18) C cs_X2_39 (m_X8_isWithin _ _ _) (by decide) dX2_hasSentence_18 (Nat.le_of_ble_eq_true rfl) (fun r18 h18 q18 => ?_)
    obtain ⟨rfl, rfl⟩ := q18
    refine kx_if_eq (pc := 21) C 28 dX2_hasSentence_21 (by decide) (fun c21 => ?_) (fun c21 => ?_)
    · refine kx_iconst (pc := 28) C (v := nI 0) dX2_hasSentence_28 (by decide) ?_
      first
        | exact hR dX2_hasSentence_29 rfl ⟨rfl, by rw [if_neg (fun q => kx_if0 c5 q.1)]; rfl⟩
        | (simp only [kx_Ts (show a (81 + j) < 2 ^ 30 by omega) (show 1 < 2 ^ 30 by omega), show (nI 0).toInt = 0 from rfl] at c21
           rw [hj] at c5
           first
             | exact hR dX2_hasSentence_29 rfl ⟨rfl, by rw [if_neg (fun q => kx_if0 c21 (by have := q.2; rw [hj, Int.toNat_natCast] at this; omega))]; rfl⟩
             | exact hR dX2_hasSentence_29 rfl ⟨rfl, by rw [if_pos ⟨by omega, by have := kx_if1 c21; rw [hj, Int.toNat_natCast]; omega⟩]; rfl⟩)
    · refine kx_iconst (pc := 24) C (v := nI 1) dX2_hasSentence_24 (by decide) ?_
      refine kx_goto (pc := 25) C 29 dX2_hasSentence_25 (by decide) ?_
      first
        | exact hR dX2_hasSentence_29 rfl ⟨rfl, by rw [if_neg (fun q => kx_if0 c5 q.1)]; rfl⟩
        | (simp only [kx_Ts (show a (81 + j) < 2 ^ 30 by omega) (show 1 < 2 ^ 30 by omega), show (nI 0).toInt = 0 from rfl] at c21
           rw [hj] at c5
           first
             | exact hR dX2_hasSentence_29 rfl ⟨rfl, by rw [if_neg (fun q => kx_if0 c21 (by have := q.2; rw [hj, Int.toNat_natCast] at this; omega))]; rfl⟩
             | exact hR dX2_hasSentence_29 rfl ⟨rfl, by rw [if_pos ⟨by omega, by have := kx_if1 c21; rw [hj, Int.toNat_natCast]; omega⟩]; rfl⟩)
set_option maxHeartbeats 4000000 in
set_option maxRecDepth 100000 in
theorem m_X2_hasAllOf {h : kx_H} {a : Nat → Nat} (v : Int32) (hS : h 1 2 = nI (a 2)) (hb : a 2 ≤ 4) : kx_MI 2 yX2_hasAllOf cX2_hasAllOf 2 .boolean [.ref 1, .int v] h (fun r h1 => h1 = h ∧ r = if 0 ≤ v.toInt ∧ v.toInt < ((2 ^ a 2 : Nat) : Int) then 1 else 0) := by
  refine kx_mkI (own := RX2) (L0 := [some (.ref 1), some (.int v)]) rfl (by decide +kernel) (Nat.le_of_ble_eq_true rfl) rfl (fun F C hR => ?_)
  refine kx_ild1 (pc := 0) C dX2_hasAllOf_0 ?_
  refine kx_iconst (pc := 1) C (v := nI 0) dX2_hasAllOf_1 (by decide) ?_
  refine kx_iconst (pc := 2) C (v := nI 1) dX2_hasAllOf_2 (by decide) ?_
  refine kx_ald0 (pc := 3) C dX2_hasAllOf_3 ?_
  refine kx_geti (pc := 4) C fl_X2_50 fd_1_2 (by first | assumption | rfl) dX2_hasAllOf_4 ?_
  refine kx_ishl (pc := 7) C dX2_hasAllOf_7 ?_
  rw [kx_sl1 (by omega)]
  refine kx_iconst (pc := 8) C (v := nI 1) dX2_hasAllOf_8 (by decide) ?_
  refine kx_isub (pc := 9) C dX2_hasAllOf_9 ?_
  refine kx_callNI3 (pc := 10) C cs_X2_39 (m_X8_isWithin _ _ _) (by decide) dX2_hasAllOf_10 (Nat.le_of_ble_eq_true rfl) (fun r10 h10 q10 => ?_)
  obtain ⟨rfl, rfl⟩ := q10
  have h16 : 2 ^ a 2 ≤ 2 ^ 4 := Nat.pow_le_pow_right (by decide) hb
  exact hR dX2_hasAllOf_13 (kx_b01 _) ⟨rfl, kx_ifc (by rw [kx_Ts (by omega) (by omega), show (nI 0).toInt = 0 from rfl]; omega)⟩
set_option maxHeartbeats 4000000 in
set_option maxRecDepth 100000 in
theorem m_X2_tensionBy {h : kx_H} {a : Nat → Nat} {e t i : Nat} (hRD : st_RD 2 4 12 h a) (hRB : st_RB a) (he : e < 4) (ht : t < 8) (hi : i < a (81 + t)) : kx_MI 3 yX2_tensionBy cX2_tensionBy 5 .int [.ref 1, .int (nI e), .int (nI t), .int (nI i)] h (fun r h1 => h1 = h ∧ r = nI (sp_te a e t i)) := by
  refine kx_mkI (own := RX2) (L0 := [some (.ref 1), some (.int (nI e)), some (.int (nI t)), some (.int (nI i)), none]) rfl (by decide +kernel) (Nat.le_of_ble_eq_true rfl) rfl (fun F C hR => ?_)
  obtain ⟨hlen, hten, hkd⟩ := hRD
  have b1 := hRB.1 t ht
  have b3 := hRB.2.2 e he
  refine kx_ald0 (pc := 0) C dX2_tensionBy_0 ?_
  refine kx_getr (pc := 1) C fl_X2_24 fd_1_7 dX2_tensionBy_1 ?_
  refine kx_ild1 (pc := 4) C dX2_tensionBy_4 ?_
  refine kx_iald (pc := 5) C ia_12 (by omega) (by first | exact hlen _ (by omega) | exact hkd _ (by omega) | exact hten _ _ (by omega) (by omega) | assumption | rfl) dX2_tensionBy_5 ?_
  refine kx_iconst (pc := 6) C (v := nI 3) dX2_tensionBy_6 (by decide) ?_
  refine kx_icmp_neN (pc := 7) C 23 (by omega) (by omega) dX2_tensionBy_7 (by decide) (fun c7 => ?_) (fun c7 => ?_)
  · refine kx_ild3 (pc := 23) C dX2_tensionBy_23 ?_
    refine kx_ist4 (pc := 24) C dX2_tensionBy_24 (by decide) rfl ?_
    refine kx_ald0 (pc := 26) C dX2_tensionBy_26 ?_
    refine kx_getr (pc := 27) C fl_X2_24 fd_1_7 dX2_tensionBy_27 ?_
    refine kx_ild1 (pc := 30) C dX2_tensionBy_30 ?_
    refine kx_iald (pc := 31) C ia_12 (by omega) (by first | exact hlen _ (by omega) | exact hkd _ (by omega) | exact hten _ _ (by omega) (by omega) | assumption | rfl) dX2_tensionBy_31 ?_
    refine kx_ald0 (pc := 32) C dX2_tensionBy_32 ?_
    refine kx_getr (pc := 33) C fl_X2_21 fd_1_6 dX2_tensionBy_33 ?_
    refine kx_ild2 (pc := 36) C dX2_tensionBy_36 ?_
    refine kx_aald1 (pc := 37) C ra_3 (by omega) dX2_tensionBy_37 ?_
    refine kx_ild4 (pc := 38) C dX2_tensionBy_38 ?_
    refine kx_iald (pc := 40) C (if_ten _ (by omega)) (by omega) (by first | exact hlen _ (by omega) | exact hkd _ (by omega) | exact hten _ _ (by omega) (by omega) | assumption | rfl) dX2_tensionBy_40 ?_
    refine kx_callNI2 (pc := 41) C cs_X2_59 (m_X8_asToldBy (by omega) (hRB.2.1 t _ ht (by omega))) (by decide) dX2_tensionBy_41 (Nat.le_of_ble_eq_true rfl) (fun r41 h41 q41 => ?_)
    obtain ⟨rfl, rfl⟩ := q41
    exact hR dX2_tensionBy_44 rfl ⟨rfl, by unfold sp_te sp_ix; first | rw [if_pos c7] | rw [if_neg c7]⟩
  · refine kx_ald0 (pc := 10) C dX2_tensionBy_10 ?_
    refine kx_getr (pc := 11) C fl_X2_15 fd_1_5 dX2_tensionBy_11 ?_
    refine kx_ild2 (pc := 14) C dX2_tensionBy_14 ?_
    refine kx_iald (pc := 15) C ia_2 (by omega) (by first | exact hlen _ (by omega) | exact hkd _ (by omega) | exact hten _ _ (by omega) (by omega) | assumption | rfl) dX2_tensionBy_15 ?_
    refine kx_iconst (pc := 16) C (v := nI 1) dX2_tensionBy_16 (by decide) ?_
    refine kx_isubN (pc := 17) C (by omega) dX2_tensionBy_17 ?_
    refine kx_ild3 (pc := 18) C dX2_tensionBy_18 ?_
    refine kx_isubN (pc := 19) C (by omega) dX2_tensionBy_19 ?_
    refine kx_goto (pc := 20) C 24 dX2_tensionBy_20 (by decide) ?_
    refine kx_ist4 (pc := 24) C dX2_tensionBy_24 (by decide) rfl ?_
    refine kx_ald0 (pc := 26) C dX2_tensionBy_26 ?_
    refine kx_getr (pc := 27) C fl_X2_24 fd_1_7 dX2_tensionBy_27 ?_
    refine kx_ild1 (pc := 30) C dX2_tensionBy_30 ?_
    refine kx_iald (pc := 31) C ia_12 (by omega) (by first | exact hlen _ (by omega) | exact hkd _ (by omega) | exact hten _ _ (by omega) (by omega) | assumption | rfl) dX2_tensionBy_31 ?_
    refine kx_ald0 (pc := 32) C dX2_tensionBy_32 ?_
    refine kx_getr (pc := 33) C fl_X2_21 fd_1_6 dX2_tensionBy_33 ?_
    refine kx_ild2 (pc := 36) C dX2_tensionBy_36 ?_
    refine kx_aald1 (pc := 37) C ra_3 (by omega) dX2_tensionBy_37 ?_
    refine kx_ild4 (pc := 38) C dX2_tensionBy_38 ?_
    refine kx_iald (pc := 40) C (if_ten _ (by omega)) (by omega) (by first | exact hlen _ (by omega) | exact hkd _ (by omega) | exact hten _ _ (by omega) (by omega) | assumption | rfl) dX2_tensionBy_40 ?_
    refine kx_callNI2 (pc := 41) C cs_X2_59 (m_X8_asToldBy (by omega) (hRB.2.1 t _ ht (by omega))) (by decide) dX2_tensionBy_41 (Nat.le_of_ble_eq_true rfl) (fun r41 h41 q41 => ?_)
    obtain ⟨rfl, rfl⟩ := q41
    exact hR dX2_tensionBy_44 rfl ⟨rfl, by unfold sp_te sp_ix; first | rw [if_pos c7] | rw [if_neg c7]⟩
set_option maxHeartbeats 4000000 in
set_option maxRecDepth 100000 in
theorem m_X2_isInMind {h : kx_H} {a : Nat → Nat} {s t v : Nat} (hme : h 1 4 = nI (a 8)) (hm : a 8 ≤ 99) (hhd : st_HD 19 h a) (hs : s < 4) (ht : t < 8) (hv : v < 2 ^ 31) (hd : a (109 + 8 * s + t) ≤ v) : kx_MI 2 yX2_isInMind cX2_isInMind 4 .boolean [.ref 1, .int (nI s), .int (nI t), .int (nI v)] h (fun r h1 => h1 = h ∧ r = if 0 < a (109 + 8 * s + t) ∧ v ≤ a (109 + 8 * s + t) + a 8 then 1 else 0) := by
  refine kx_mkI (own := RX2) (L0 := [some (.ref 1), some (.int (nI s)), some (.int (nI t)), some (.int (nI v))]) rfl (by decide +kernel) (Nat.le_of_ble_eq_true rfl) rfl (fun F C hR => ?_)
  refine kx_ald0 (pc := 0) C dX2_isInMind_0 ?_
  refine kx_getr (pc := 1) C fl_X2_30 fd_1_9 dX2_isInMind_1 ?_
  refine kx_ild1 (pc := 4) C dX2_isInMind_4 ?_
  refine kx_aald1 (pc := 5) C ra_18 (by omega) dX2_isInMind_5 ?_
  refine kx_ild2 (pc := 6) C dX2_isInMind_6 ?_
  refine kx_iald (pc := 7) C (if_hrd _ (by omega)) (by omega) (by first | exact hhd _ _ (by omega) (by omega) | assumption | rfl) dX2_isInMind_7 ?_
  refine kx_ild3 (pc := 8) C dX2_isInMind_8 ?_
  refine kx_ald0 (pc := 9) C dX2_isInMind_9 ?_
  refine kx_geti (pc := 10) C fl_X2_9 fd_1_4 (by first | exact hhd _ _ (by omega) (by omega) | assumption | rfl) dX2_isInMind_10 ?_
  refine kx_callNI3 (pc := 13) C cs_X2_63 (m_X8_isRemembered hd hv (by omega)) (by decide) dX2_isInMind_13 (Nat.le_of_ble_eq_true rfl) (fun r13 h13 q13 => ?_)
  obtain ⟨rfl, rfl⟩ := q13
  exact hR dX2_isInMind_16 (kx_b01 _) ⟨rfl, rfl⟩
theorem st_RD.kept {l t0 k0 c : Nat} {h g : kx_H} {a : Nat → Nat} (hr : st_RD l t0 k0 h a) (hg : ∀ d j, d ≠ c → g d j = h d j) (h1 : c ≠ l) (h2 : c < t0 ∨ t0 + 8 ≤ c) (h3 : c ≠ k0) : st_RD l t0 k0 g a :=
  ⟨fun t ht => by rw [hg l t (fun q => h1 q.symm)]; exact hr.1 t ht, fun t i ht hi => by rw [hg (t0 + t) i (by omega)]; exact hr.2.1 t i ht hi, fun e he => by rw [hg k0 e (fun q => h3 q.symm)]; exact hr.2.2 e he⟩
set_option maxHeartbeats 4000000 in
set_option maxRecDepth 100000 in
theorem m_X2_spin {h : kx_H} {a : Nat → Nat} {c e t fr to m : Nat} (hRD : st_RD 2 4 12 h a) (hRB : st_RB a) (hc : kx_ia c 4) (hc2 : 13 ≤ c) (he : e < 4) (ht : t < 8) (hto : to ≤ a (81 + t)) (hfr : fr ≤ to) (hm : m ≤ 1) : kx_MV 4 yX2_spin cX2_spin 9 [.ref 1, .ref c, .int (nI e), .int (nI t), .int (nI fr), .int (nI to), .int (nI m)] h (fun h1 => (∀ k, k < 4 → h1 c k = h c k + nI (sp_cn (fun i => sp_so m (sp_te a e t i)) k fr (to - fr))) ∧ ∀ d j, d ≠ c → h1 d j = h d j) := by
  refine kx_mkV (own := RX2) (L0 := [some (.ref 1), some (.ref c), some (.int (nI e)), some (.int (nI t)), some (.int (nI fr)), some (.int (nI to)), some (.int (nI m)), none, none]) rfl (by decide +kernel) (Nat.le_of_ble_eq_true rfl) rfl (fun F C hR => ?_)
  have b1 := hRB.1 t ht
  have loop : ∀ (q i : Nat) (g : kx_H) (z : Option Value), kx_nl [some (.ref 1), some (.ref c), some (.int (nI e)), some (.int (nI t)), some (.int (nI fr)), some (.int (nI to)), some (.int (nI m)), some (.int (nI i)), z] 8 = true → to - i = q → i ≤ to → fr ≤ i → (∀ k, k < 4 → g c k = h c k + nI (sp_cn (fun i => sp_so m (sp_te a e t i)) k fr (i - fr))) → (∀ d j, d ≠ c → g d j = h d j) → F 4 [some (.ref 1), some (.ref c), some (.int (nI e)), some (.int (nI t)), some (.int (nI fr)), some (.int (nI to)), some (.int (nI m)), some (.int (nI i)), z] [] g := by
    intro q
    induction q with
    | zero =>
      intro i g z hz hq hi hf hk hg
      refine kx_ild7 (pc := 4) C dX2_spin_4 ?_
      refine kx_ild5 (pc := 6) C dX2_spin_6 ?_
      refine kx_icmp_geN (pc := 8) C 51 (by omega) (by omega) dX2_spin_8 (by decide) (fun c8 => ?_) (fun c8 => ?_)
      · exact hR dX2_spin_51 ⟨fun k z => by rw [hk k z, show i - fr = to - fr by omega], hg⟩
      · omega
    | succ q ih =>
      intro i g z hz hq hi hf hk hg
      have hrd : st_RD 2 4 12 g a := hRD.kept hg (by omega) (by omega) (by omega)
      have key : ∀ x, x < 4 → x = sp_so m (sp_te a e t i) → F 40 [some (.ref 1), some (.ref c), some (.int (nI e)), some (.int (nI t)), some (.int (nI fr)), some (.int (nI to)), some (.int (nI m)), some (.int (nI i)), some (.int (nI (sp_te a e t i / 3)))] [.int (nI x), .ref c] g := by
        intro x hx ex
        have hv := hk x hx
        refine kx_dup2 (pc := 40) C dX2_spin_40 rfl rfl ?_
        refine kx_iald (pc := 41) C hc (by omega) (by first | assumption | rfl) dX2_spin_41 ?_
        refine kx_iconst (pc := 42) C (v := nI 1) dX2_spin_42 (by decide) ?_
        refine kx_iadd (pc := 43) C dX2_spin_43 ?_
        refine kx_iast (pc := 44) C hc (by omega) dX2_spin_44 ?_
        first | refine kx_inc7 (pc := 45) C (v := nI (_ + 1)) dX2_spin_45 (by decide) rfl (nI_1 _) ?_ | refine kx_inc7 (pc := 45) C dX2_spin_45 (by decide) rfl rfl ?_
        refine kx_goto (pc := 48) C 4 dX2_spin_48 (by decide) ?_
        refine ih (i + 1) _ _ rfl (by omega) (by omega) (by omega) (fun k hk4 => ?_) (fun d j hd => by simp only [kx_up, hd, false_and, if_false]; exact hg d j hd)
        rw [show i + 1 - fr = (i - fr) + 1 by omega, sp_cn, show fr + (i - fr) = i by omega]
        by_cases hkx : k = x
        · subst hkx
          simp only [kx_up, and_self, if_true]
          rw [if_pos ex.symm, ← nI_add, Int32.add_assoc]
        · simp only [kx_up, hkx, and_false, if_false]
          rw [if_neg (fun z => hkx (by rw [ex, ← z])), hk k hk4]
          rfl
      have hte := sp_te_le hRB (e := e) ht (show i < a (81 + t) by omega)
      have hso := sp_so_lt (m := m) hte
      refine kx_ild7 (pc := 4) C dX2_spin_4 ?_
      refine kx_ild5 (pc := 6) C dX2_spin_6 ?_
      refine kx_icmp_geN (pc := 8) C 51 (by omega) (by omega) dX2_spin_8 (by decide) (fun c8 => ?_) (fun c8 => ?_)
      · omega
      · refine kx_ald0 (pc := 11) C dX2_spin_11 ?_
        refine kx_ild2 (pc := 12) C dX2_spin_12 ?_
        refine kx_ild3 (pc := 13) C dX2_spin_13 ?_
        refine kx_ild7 (pc := 14) C dX2_spin_14 ?_
        refine kx_callVI3 (pc := 16) C cs_X2_100 ob_1 (m_X2_tensionBy hrd hRB he ht (by omega)) (by decide) dX2_spin_16 (Nat.le_of_ble_eq_true rfl) (fun r16 h16 q16 => ?_)
        obtain ⟨rfl, rfl⟩ := q16
        refine kx_callNI1 (pc := 19) C cs_X2_104 (m_X8_sortOf (by omega)) (by decide) dX2_spin_19 (Nat.le_of_ble_eq_true rfl) (fun r19 h19 q19 => ?_)
        obtain ⟨rfl, rfl⟩ := q19
        refine kx_ist8 (pc := 22) C dX2_spin_22 (by decide) rfl ?_
        refine kx_ald1 (pc := 24) C dX2_spin_24 ?_
        refine kx_ild6 (pc := 25) C dX2_spin_25 ?_
        refine kx_if_eqN (pc := 27) C 38 (by omega) dX2_spin_27 (by decide) (fun c27 => ?_) (fun c27 => ?_)
        · refine kx_ild8 (pc := 38) C dX2_spin_38 ?_
          exact key _ (by omega) (by unfold sp_so; first | rw [if_pos c27] | rw [if_neg (by omega)])
        · refine kx_ild8 (pc := 30) C dX2_spin_30 ?_
          refine kx_callNI1 (pc := 32) C cs_X2_107 (m_X8_duller (by omega)) (by decide) dX2_spin_32 (Nat.le_of_ble_eq_true rfl) (fun r32 h32 q32 => ?_)
          obtain ⟨rfl, rfl⟩ := q32
          refine kx_goto (pc := 35) C 40 dX2_spin_35 (by decide) ?_
          exact key _ (by omega) (by unfold sp_so; first | rw [if_pos c27] | rw [if_neg (by omega)])
  refine kx_ild4 (pc := 0) C dX2_spin_0 ?_
  refine kx_ist7 (pc := 2) C dX2_spin_2 (by decide) rfl ?_
  exact loop (to - fr) fr h none rfl (by omega) (by omega) (by omega) (fun k hk => by rw [Nat.sub_self]; show _ = _ + nI 0; rw [nI_zero, Int32.add_zero]) (fun d j _ => rfl)
end
section
theorem kx_ifx {α : Type} {c d : Prop} [Decidable c] [Decidable d] (h : c ↔ d) (x y : α) : (if c then x else y) = if d then x else y := by
  by_cases q : c
  · rw [if_pos q, if_pos (h.mp q)]
  · rw [if_neg q, if_neg (fun z => q (h.mpr z))]
def sp_tv (la lb : Nat) (f g : Nat → Nat) (p : Nat) : Nat := if p < 2 * la ∧ p < 2 * lb then (if p % 2 = 0 then f (p / 2) else g (p / 2)) else if lb < la then f (p - lb) else g (p - la)
set_option maxHeartbeats 4000000 in
set_option maxRecDepth 100000 in
theorem m_X2_keepInMind {h : kx_H} {t w n ev : Nat} (hS : h 1 2 = nI n) (hn : n ≤ 4) (hev : h 1 3 = nI ev) (ht : t < 8) (hw : w < 16) : kx_MV 1 yX2_keepInMind cX2_keepInMind 4 [.ref 1, .int (nI t), .int (nI w)] h (fun h1 => (∀ s j, s < 4 → h1 (19 + s) j = if j = t ∧ s < n ∧ w / 2 ^ s % 2 = 1 then nI ev else h (19 + s) j) ∧ ∀ d j, (d < 19 ∨ 23 ≤ d) → h1 d j = h d j) := by
  refine kx_mkV (own := RX2) (L0 := [some (.ref 1), some (.int (nI t)), some (.int (nI w)), none]) rfl (by decide +kernel) (Nat.le_of_ble_eq_true rfl) rfl (fun F C hR => ?_)
  have loop : ∀ (q s : Nat) (g : kx_H), n - s = q → s ≤ n → (∀ u j, u < 4 → g (19 + u) j = if j = t ∧ u < s ∧ w / 2 ^ u % 2 = 1 then nI ev else h (19 + u) j) → (∀ d j, (d < 19 ∨ 23 ≤ d) → g d j = h d j) → F 2 [some (.ref 1), some (.int (nI t)), some (.int (nI w)), some (.int (nI s))] [] g := by
    intro q
    induction q with
    | zero =>
      intro s g hq hs hk hg
      have hS2 : g 1 2 = nI n := by rw [hg 1 2 (by omega)]; exact hS
      refine kx_ild3 (pc := 2) C dX2_keepInMind_2 ?_
      refine kx_ald0 (pc := 3) C dX2_keepInMind_3 ?_
      refine kx_geti (pc := 4) C fl_X2_50 fd_1_2 (by first | assumption | rfl) dX2_keepInMind_4 ?_
      refine kx_icmp_geN (pc := 7) C 36 (by omega) (by omega) dX2_keepInMind_7 (by decide) (fun c7 => ?_) (fun c7 => ?_)
      · exact hR dX2_keepInMind_36 ⟨fun u j hu => by rw [hk u j hu]; rw [show s = n by omega], hg⟩
      · omega
    | succ q ih =>
      intro s g hq hs hk hg
      have hS2 : g 1 2 = nI n := by rw [hg 1 2 (by omega)]; exact hS
      have hev2 : g 1 3 = nI ev := by rw [hg 1 3 (by omega)]; exact hev
      refine kx_ild3 (pc := 2) C dX2_keepInMind_2 ?_
      refine kx_ald0 (pc := 3) C dX2_keepInMind_3 ?_
      refine kx_geti (pc := 4) C fl_X2_50 fd_1_2 (by first | assumption | rfl) dX2_keepInMind_4 ?_
      refine kx_icmp_geN (pc := 7) C 36 (by omega) (by omega) dX2_keepInMind_7 (by decide) (fun c7 => ?_) (fun c7 => ?_)
      · omega
      · refine kx_ild2 (pc := 10) C dX2_keepInMind_10 ?_
        refine kx_ild3 (pc := 11) C dX2_keepInMind_11 ?_
        refine kx_ishr (pc := 12) C dX2_keepInMind_12 ?_
        refine kx_iconst (pc := 13) C (v := nI 1) dX2_keepInMind_13 (by decide) ?_
        refine kx_iand (pc := 14) C dX2_keepInMind_14 ?_
        rw [kx_bit (by omega) (by omega)]
        refine kx_if_eqN (pc := 15) C 30 (by omega) dX2_keepInMind_15 (by decide) (fun c15 => ?_) (fun c15 => ?_)
        · first | refine kx_inc3 (pc := 30) C (v := nI (_ + 1)) dX2_keepInMind_30 (by decide) rfl (nI_1 _) ?_ | refine kx_inc3 (pc := 30) C dX2_keepInMind_30 (by decide) rfl rfl ?_
          refine kx_goto (pc := 33) C 2 dX2_keepInMind_33 (by decide) ?_
          first
            | (refine ih (s + 1) _ (by omega) (by omega) (fun u j hu => ?_) hg
               rw [hk u j hu]
               by_cases hus : u = s
               · subst hus
                 rw [if_neg (by omega), if_neg (by omega)]
               · exact kx_ifx (by omega) _ _)
            | (refine ih (s + 1) _ (by omega) (by omega) (fun u j hu => ?_) (fun d j hd => by rw [kx_up, if_neg (by omega)]; exact hg d j hd)
               by_cases hus : u = s
               · subst hus
                 by_cases hj : j = t
                 · subst hj
                   rw [kx_up, if_pos ⟨rfl, rfl⟩, if_pos (by omega)]
                 · rw [kx_up, if_neg (by omega), hk u j hu, if_neg (by omega), if_neg (by omega)]
               · rw [kx_up, if_neg (by omega), hk u j hu]
                 exact kx_ifx (by omega) _ _)
        · refine kx_ald0 (pc := 18) C dX2_keepInMind_18 ?_
          refine kx_getr (pc := 19) C fl_X2_30 fd_1_9 dX2_keepInMind_19 ?_
          refine kx_ild3 (pc := 22) C dX2_keepInMind_22 ?_
          refine kx_aald1 (pc := 23) C ra_18 (by omega) dX2_keepInMind_23 ?_
          refine kx_ild1 (pc := 24) C dX2_keepInMind_24 ?_
          refine kx_ald0 (pc := 25) C dX2_keepInMind_25 ?_
          refine kx_geti (pc := 26) C fl_X2_80 fd_1_3 (by first | assumption | rfl) dX2_keepInMind_26 ?_
          refine kx_iast (pc := 29) C (if_hrd _ (by omega)) (by omega) dX2_keepInMind_29 ?_
          first | refine kx_inc3 (pc := 30) C (v := nI (_ + 1)) dX2_keepInMind_30 (by decide) rfl (nI_1 _) ?_ | refine kx_inc3 (pc := 30) C dX2_keepInMind_30 (by decide) rfl rfl ?_
          refine kx_goto (pc := 33) C 2 dX2_keepInMind_33 (by decide) ?_
          first
            | (refine ih (s + 1) _ (by omega) (by omega) (fun u j hu => ?_) hg
               rw [hk u j hu]
               by_cases hus : u = s
               · subst hus
                 rw [if_neg (by omega), if_neg (by omega)]
               · exact kx_ifx (by omega) _ _)
            | (refine ih (s + 1) _ (by omega) (by omega) (fun u j hu => ?_) (fun d j hd => by rw [kx_up, if_neg (by omega)]; exact hg d j hd)
               by_cases hus : u = s
               · subst hus
                 by_cases hj : j = t
                 · subst hj
                   rw [kx_up, if_pos ⟨rfl, rfl⟩, if_pos (by omega)]
                 · rw [kx_up, if_neg (by omega), hk u j hu, if_neg (by omega), if_neg (by omega)]
               · rw [kx_up, if_neg (by omega), hk u j hu]
                 exact kx_ifx (by omega) _ _)
  refine kx_iconst (pc := 0) C (v := nI 0) dX2_keepInMind_0 (by decide) ?_
  refine kx_ist3 (pc := 1) C dX2_keepInMind_1 (by decide) rfl ?_
  exact loop n 0 h (by omega) (by omega) (fun u j hu => by rw [if_neg (by omega)]) (fun d j _ => rfl)
set_option maxHeartbeats 4000000 in
set_option maxRecDepth 100000 in
theorem m_X2_tangleInto {h : kx_H} {a : Nat → Nat} {x y : Nat} (hRD : st_RD 2 4 12 h a) (hRB : st_RB a) (hx : x < 8) (hy : y < 8) : kx_MI 1 yX2_tangleInto cX2_tangleInto 6 .int [.ref 1, .ref 57, .int (nI x), .int (nI y)] h (fun r h1 => r = nI (a (81 + x) + a (81 + y)) ∧ (∀ p, p < a (81 + x) + a (81 + y) → h1 57 p = nI (sp_tv (a (81 + x)) (a (81 + y)) (fun i => a (9 + 9 * x + i)) (fun i => a (9 + 9 * y + i)) p)) ∧ ∀ d j, d ≠ 57 → h1 d j = h d j) := by
  refine kx_mkI (own := RX2) (L0 := [some (.ref 1), some (.ref 57), some (.int (nI x)), some (.int (nI y)), none, none]) rfl (by decide +kernel) (Nat.le_of_ble_eq_true rfl) rfl (fun F C hR => ?_)
  have bx := hRB.1 x hx
  have by_ := hRB.1 y hy
  generalize hla : a (81 + x) = la at *
  generalize hlb : a (81 + y) = lb at *
  have loop : ∀ (q i : Nat) (g : kx_H), 9 - i = q → i ≤ 9 → (∀ p, p < min i la + min i lb → g 57 p = nI (sp_tv la lb (fun i => a (9 + 9 * x + i)) (fun i => a (9 + 9 * y + i)) p)) → (∀ d j, d ≠ 57 → g d j = h d j) → F 6 [some (.ref 1), some (.ref 57), some (.int (nI x)), some (.int (nI y)), some (.int (nI (min i la + min i lb))), some (.int (nI i))] [] g := by
    intro q
    induction q with
    | zero =>
      intro i g hq hi hk hg
      refine kx_ild5 (pc := 6) C dX2_tangleInto_6 ?_
      refine kx_bipush (pc := 8) C (v := nI 9) dX2_tangleInto_8 (by decide) ?_
      refine kx_icmp_geN (pc := 10) C 73 (by omega) (by omega) dX2_tangleInto_10 (by decide) (fun c10 => ?_) (fun c10 => ?_)
      · refine kx_ild4 (pc := 73) C dX2_tangleInto_73 ?_
        exact hR dX2_tangleInto_75 rfl ⟨by rw [show min i la + min i lb = la + lb by omega], fun p hp => hk p (by omega), hg⟩
      · omega
    | succ q ih =>
      intro i g hq hi hk hg
      have hrd : st_RD 2 4 12 g a := hRD.kept (c := 57) hg (by omega) (by omega) (by omega)
      obtain ⟨hlen, hten, -⟩ := hrd
      have l1 : g 2 x = nI la := by rw [hlen x hx, hla]
      have l2 : g 2 y = nI lb := by rw [hlen y hy, hlb]
      have key : ∀ (n : Nat) (g2 : kx_H), n = min (i + 1) la + min i lb → (∀ p, p < n → g2 57 p = nI (sp_tv la lb (fun i => a (9 + 9 * x + i)) (fun i => a (9 + 9 * y + i)) p)) → (∀ d j, d ≠ 57 → g2 d j = h d j) → F 40 [some (.ref 1), some (.ref 57), some (.int (nI x)), some (.int (nI y)), some (.int (nI n)), some (.int (nI i))] [] g2 := by
        intro n g2 hn hk2 hg2
        have m2 : g2 2 y = nI lb := by rw [hg2 2 y (by omega), ← hg 2 y (by omega)]; exact l2
        have m3 : ∀ j, j < 9 → g2 (4 + y) j = nI (a (9 + 9 * y + j)) := fun j hj => by rw [hg2 _ _ (by omega), ← hg _ _ (by omega)]; exact hten y j hy hj
        refine kx_ild5 (pc := 40) C dX2_tangleInto_40 ?_
        refine kx_ald0 (pc := 42) C dX2_tangleInto_42 ?_
        refine kx_getr (pc := 43) C fl_X2_15 fd_1_5 dX2_tangleInto_43 ?_
        refine kx_ild3 (pc := 46) C dX2_tangleInto_46 ?_
        refine kx_iald (pc := 47) C ia_2 (by omega) (by first | assumption | exact m3 _ (by omega) | rfl) dX2_tangleInto_47 ?_
        refine kx_icmp_geN (pc := 48) C 67 (by omega) (by omega) dX2_tangleInto_48 (by decide) (fun c48 => ?_) (fun c48 => ?_)
        · first | refine kx_inc5 (pc := 67) C (v := nI (_ + 1)) dX2_tangleInto_67 (by decide) rfl (nI_1 _) ?_ | refine kx_inc5 (pc := 67) C dX2_tangleInto_67 (by decide) rfl rfl ?_
          refine kx_goto (pc := 70) C 6 dX2_tangleInto_70 (by decide) ?_
          first
            | (have e : n = min (i + 1) la + min (i + 1) lb := by omega
               rw [e]
               exact ih (i + 1) _ (by omega) (by omega) (fun p hp => hk2 p (by omega)) hg2)
            | (have e : n + 1 = min (i + 1) la + min (i + 1) lb := by omega
               rw [e]
               refine ih (i + 1) _ (by omega) (by omega) (fun p hp => ?_) (fun d j hd => by rw [kx_up, if_neg (by omega)]; exact hg2 d j hd)
               by_cases hpn : p = n
               · subst hpn
                 rw [kx_up, if_pos ⟨rfl, rfl⟩]
                 congr 1
                 unfold sp_tv
                 by_cases h1 : i < la
                 · rw [if_pos (by omega), if_neg (by omega), show p / 2 = i by omega]
                 · rw [if_neg (by omega), if_neg (by omega), show p - la = i by omega]
               · rw [kx_up, if_neg (by omega)]
                 exact hk2 p (by omega))
        · refine kx_ald1 (pc := 51) C dX2_tangleInto_51 ?_
          refine kx_ild4 (pc := 52) C dX2_tangleInto_52 ?_
          first | refine kx_inc4 (pc := 54) C (v := nI (_ + 1)) dX2_tangleInto_54 (by decide) rfl (nI_1 _) ?_ | refine kx_inc4 (pc := 54) C dX2_tangleInto_54 (by decide) rfl rfl ?_
          refine kx_ald0 (pc := 57) C dX2_tangleInto_57 ?_
          refine kx_getr (pc := 58) C fl_X2_21 fd_1_6 dX2_tangleInto_58 ?_
          refine kx_ild3 (pc := 61) C dX2_tangleInto_61 ?_
          refine kx_aald1 (pc := 62) C ra_3 (by omega) dX2_tangleInto_62 ?_
          refine kx_ild5 (pc := 63) C dX2_tangleInto_63 ?_
          refine kx_iald (pc := 65) C (if_ten _ (by omega)) (by omega) (by first | assumption | exact m3 _ (by omega) | rfl) dX2_tangleInto_65 ?_
          refine kx_iast (pc := 66) C ia_57 (by omega) dX2_tangleInto_66 ?_
          first | refine kx_inc5 (pc := 67) C (v := nI (_ + 1)) dX2_tangleInto_67 (by decide) rfl (nI_1 _) ?_ | refine kx_inc5 (pc := 67) C dX2_tangleInto_67 (by decide) rfl rfl ?_
          refine kx_goto (pc := 70) C 6 dX2_tangleInto_70 (by decide) ?_
          first
            | (have e : n = min (i + 1) la + min (i + 1) lb := by omega
               rw [e]
               exact ih (i + 1) _ (by omega) (by omega) (fun p hp => hk2 p (by omega)) hg2)
            | (have e : n + 1 = min (i + 1) la + min (i + 1) lb := by omega
               rw [e]
               refine ih (i + 1) _ (by omega) (by omega) (fun p hp => ?_) (fun d j hd => by rw [kx_up, if_neg (by omega)]; exact hg2 d j hd)
               by_cases hpn : p = n
               · subst hpn
                 rw [kx_up, if_pos ⟨rfl, rfl⟩]
                 congr 1
                 unfold sp_tv
                 by_cases h1 : i < la
                 · rw [if_pos (by omega), if_neg (by omega), show p / 2 = i by omega]
                 · rw [if_neg (by omega), if_neg (by omega), show p - la = i by omega]
               · rw [kx_up, if_neg (by omega)]
                 exact hk2 p (by omega))
      refine kx_ild5 (pc := 6) C dX2_tangleInto_6 ?_
      refine kx_bipush (pc := 8) C (v := nI 9) dX2_tangleInto_8 (by decide) ?_
      refine kx_icmp_geN (pc := 10) C 73 (by omega) (by omega) dX2_tangleInto_10 (by decide) (fun c10 => ?_) (fun c10 => ?_)
      · omega
      · refine kx_ild5 (pc := 13) C dX2_tangleInto_13 ?_
        refine kx_ald0 (pc := 15) C dX2_tangleInto_15 ?_
        refine kx_getr (pc := 16) C fl_X2_15 fd_1_5 dX2_tangleInto_16 ?_
        refine kx_ild2 (pc := 19) C dX2_tangleInto_19 ?_
        refine kx_iald (pc := 20) C ia_2 (by omega) (by first | assumption | exact hten _ _ (by omega) (by omega) | rfl) dX2_tangleInto_20 ?_
        refine kx_icmp_geN (pc := 21) C 40 (by omega) (by omega) dX2_tangleInto_21 (by decide) (fun c21 => ?_) (fun c21 => ?_)
        · first
            | exact key _ _ (by omega) (fun p hp => hk p (by omega)) hg
            | (refine key _ _ (by omega) (fun p hp => ?_) (fun d j hd => by rw [kx_up, if_neg (by omega)]; exact hg d j hd)
               by_cases hpn : p = min i la + min i lb
               · subst hpn
                 rw [kx_up, if_pos ⟨rfl, rfl⟩]
                 congr 1
                 unfold sp_tv
                 by_cases h1 : i < lb
                 · rw [if_pos (by omega), if_pos (by omega), show (min i la + min i lb) / 2 = i by omega]
                 · rw [if_neg (by omega), if_pos (by omega), show min i la + min i lb - lb = i by omega]
               · rw [kx_up, if_neg (by omega)]
                 exact hk p (by omega))
        · refine kx_ald1 (pc := 24) C dX2_tangleInto_24 ?_
          refine kx_ild4 (pc := 25) C dX2_tangleInto_25 ?_
          first | refine kx_inc4 (pc := 27) C (v := nI (_ + 1)) dX2_tangleInto_27 (by decide) rfl (nI_1 _) ?_ | refine kx_inc4 (pc := 27) C dX2_tangleInto_27 (by decide) rfl rfl ?_
          refine kx_ald0 (pc := 30) C dX2_tangleInto_30 ?_
          refine kx_getr (pc := 31) C fl_X2_21 fd_1_6 dX2_tangleInto_31 ?_
          refine kx_ild2 (pc := 34) C dX2_tangleInto_34 ?_
          refine kx_aald1 (pc := 35) C ra_3 (by omega) dX2_tangleInto_35 ?_
          refine kx_ild5 (pc := 36) C dX2_tangleInto_36 ?_
          refine kx_iald (pc := 38) C (if_ten _ (by omega)) (by omega) (by first | assumption | exact hten _ _ (by omega) (by omega) | rfl) dX2_tangleInto_38 ?_
          refine kx_iast (pc := 39) C ia_57 (by omega) dX2_tangleInto_39 ?_
          first
            | exact key _ _ (by omega) (fun p hp => hk p (by omega)) hg
            | (refine key _ _ (by omega) (fun p hp => ?_) (fun d j hd => by rw [kx_up, if_neg (by omega)]; exact hg d j hd)
               by_cases hpn : p = min i la + min i lb
               · subst hpn
                 rw [kx_up, if_pos ⟨rfl, rfl⟩]
                 congr 1
                 unfold sp_tv
                 by_cases h1 : i < lb
                 · rw [if_pos (by omega), if_pos (by omega), show (min i la + min i lb) / 2 = i by omega]
                 · rw [if_neg (by omega), if_pos (by omega), show min i la + min i lb - lb = i by omega]
               · rw [kx_up, if_neg (by omega)]
                 exact hk p (by omega))
  refine kx_iconst (pc := 0) C (v := nI 0) dX2_tangleInto_0 (by decide) ?_
  refine kx_ist4 (pc := 1) C dX2_tangleInto_1 (by decide) rfl ?_
  refine kx_iconst (pc := 3) C (v := nI 0) dX2_tangleInto_3 (by decide) ?_
  refine kx_ist5 (pc := 4) C dX2_tangleInto_4 (by decide) rfl ?_
  exact loop 9 0 h (by omega) (by omega) (fun p hp => absurd hp (by omega)) (fun d j _ => rfl)
set_option maxHeartbeats 4000000 in
set_option maxRecDepth 100000 in
theorem m_X2_addTale {h : kx_H} {T n : Nat} (hT : h 1 0 = nI T) (hT8 : T < 8) (hn : n ≤ 9) : kx_MI 2 yX2_addTale cX2_addTale 3 .int [.ref 1, .ref 56, .int (nI n)] h (fun r h1 => r = nI T ∧ h1 = kx_up (kx_up (kx_cp h 56 (4 + T) 0 0 n) 2 T (nI n)) 1 0 (nI (T + 1))) := by
  refine kx_mkI (own := RX2) (L0 := [some (.ref 1), some (.ref 56), some (.int (nI n))]) rfl (by decide +kernel) (Nat.le_of_ble_eq_true rfl) rfl (fun F C hR => ?_)
  refine kx_ald1 (pc := 0) C dX2_addTale_0 ?_
  refine kx_iconst (pc := 1) C (v := nI 0) dX2_addTale_1 (by decide) ?_
  refine kx_ald0 (pc := 2) C dX2_addTale_2 ?_
  refine kx_getr (pc := 3) C fl_X2_21 fd_1_6 dX2_addTale_3 ?_
  refine kx_ald0 (pc := 6) C dX2_addTale_6 ?_
  refine kx_geti (pc := 7) C fl_X2_36 fd_1_0 (by first | assumption | rfl) dX2_addTale_7 ?_
  refine kx_aald1 (pc := 10) C ra_3 (by omega) dX2_addTale_10 ?_
  refine kx_iconst (pc := 11) C (v := nI 0) dX2_addTale_11 (by decide) ?_
  refine kx_ild2 (pc := 12) C dX2_addTale_12 ?_
  refine kx_cpy (pc := 13) C ac_X2_53 ia_56 (if_ten _ (by omega)) (by decide) (by omega) (by omega) (Nat.le_of_ble_eq_true rfl) dX2_addTale_13 ?_
  have e1 : kx_cp h 56 (4 + T) 0 0 n 1 0 = nI T := by rw [kx_cp, if_neg (by omega)]; exact hT
  refine kx_ald0 (pc := 16) C dX2_addTale_16 ?_
  refine kx_getr (pc := 17) C fl_X2_15 fd_1_5 dX2_addTale_17 ?_
  refine kx_ald0 (pc := 20) C dX2_addTale_20 ?_
  refine kx_geti (pc := 21) C fl_X2_36 fd_1_0 (by first | assumption | rfl) dX2_addTale_21 ?_
  refine kx_ild2 (pc := 24) C dX2_addTale_24 ?_
  refine kx_iast (pc := 25) C ia_2 (by omega) dX2_addTale_25 ?_
  have e2 : kx_up (kx_cp h 56 (4 + T) 0 0 n) 2 T (nI n) 1 0 = nI T := by rw [kx_up, if_neg (by omega)]; exact e1
  refine kx_ald0 (pc := 26) C dX2_addTale_26 ?_
  refine kx_dup (pc := 27) C dX2_addTale_27 rfl ?_
  refine kx_geti (pc := 28) C fl_X2_36 fd_1_0 (by first | assumption | rfl) dX2_addTale_28 ?_
  refine kx_dup_x1 (pc := 31) C dX2_addTale_31 rfl rfl ?_
  refine kx_iconst (pc := 32) C (v := nI 1) dX2_addTale_32 (by decide) ?_
  first | refine kx_iaddN (pc := 33) C dX2_addTale_33 ?_ | refine kx_iadd (pc := 33) C dX2_addTale_33 ?_
  refine kx_puti (pc := 34) C fl_X2_36 fp_X2_0 fd_1_0 rfl rfl dX2_addTale_34 ?_
  exact hR dX2_addTale_37 rfl (⟨rfl, rfl⟩)
end

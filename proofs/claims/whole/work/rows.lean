section
-- ===== PART A: goes FIRST, ahead of the names: the tables' words, and 'selects' of the private methods out of them =====
/-- a private method of a class that the tables say can be made, by its rows of tables_1 -/
def lw_okq (q : MethodName × Nat) : Prop := (q.1.cls ≠ "java/lang/invoke/MethodHandle" ∧ q.1.cls ≠ "java/lang/invoke/VarHandle") ∧ Cond.instantiable q.1.cls q.2 ∈ tables_1 ∧ Cond.privateMethod q.1 ∈ tables_1 ∧ Cond.instanceMethod q.1 ∈ tables_1
theorem lw_p0 : lw_okq (⟨"RecordsOffice", "digestOf", "(I)J"⟩, 11) := ⟨⟨by decide +kernel, by decide +kernel⟩, List.mem_of_getElem? (i := 20) (by decide +kernel), List.mem_of_getElem? (i := 149) (by decide +kernel), List.mem_of_getElem? (i := 150) (by decide +kernel)⟩
theorem lw_p1 : lw_okq (⟨"java/lang/Throwable", "fillInStackTrace", "(I)Ljava/lang/Throwable;"⟩, 6) := ⟨⟨by decide +kernel, by decide +kernel⟩, List.mem_of_getElem? (i := 212) (by decide +kernel), List.mem_of_getElem? (i := 210) (by decide +kernel), List.mem_of_getElem? (i := 211) (by decide +kernel)⟩
theorem lw_p2 : lw_okq (⟨"RecordsOffice", "needRoom", "(I)V"⟩, 11) := ⟨⟨by decide +kernel, by decide +kernel⟩, List.mem_of_getElem? (i := 20) (by decide +kernel), List.mem_of_getElem? (i := 284) (by decide +kernel), List.mem_of_getElem? (i := 285) (by decide +kernel)⟩
theorem lw_p3 : lw_okq (⟨"RecordsOffice", "folderAt", "(I)LRecordsOffice$Folder;"⟩, 11) := ⟨⟨by decide +kernel, by decide +kernel⟩, List.mem_of_getElem? (i := 20) (by decide +kernel), List.mem_of_getElem? (i := 367) (by decide +kernel), List.mem_of_getElem? (i := 368) (by decide +kernel)⟩
theorem lw_p4 : lw_okq (⟨"RecordsOffice", "needDayOfAct", "(I)V"⟩, 11) := ⟨⟨by decide +kernel, by decide +kernel⟩, List.mem_of_getElem? (i := 20) (by decide +kernel), List.mem_of_getElem? (i := 371) (by decide +kernel), List.mem_of_getElem? (i := 372) (by decide +kernel)⟩
theorem lw_p5 : lw_okq (⟨"RecordsOffice", "recordAt", "(I)LRecordsOffice$Filed;"⟩, 11) := ⟨⟨by decide +kernel, by decide +kernel⟩, List.mem_of_getElem? (i := 20) (by decide +kernel), List.mem_of_getElem? (i := 466) (by decide +kernel), List.mem_of_getElem? (i := 467) (by decide +kernel)⟩
theorem lw_p6 : lw_okq (⟨"RecordsOffice", "holdsOver", "(LRecordsOffice$Filed;)I"⟩, 11) := ⟨⟨by decide +kernel, by decide +kernel⟩, List.mem_of_getElem? (i := 20) (by decide +kernel), List.mem_of_getElem? (i := 471) (by decide +kernel), List.mem_of_getElem? (i := 472) (by decide +kernel)⟩
theorem lw_p7 : lw_okq (⟨"RecordsOffice", "dueDay", "(LRecordsOffice$Filed;)I"⟩, 11) := ⟨⟨by decide +kernel, by decide +kernel⟩, List.mem_of_getElem? (i := 20) (by decide +kernel), List.mem_of_getElem? (i := 494) (by decide +kernel), List.mem_of_getElem? (i := 495) (by decide +kernel)⟩
theorem lw_p8 : lw_okq (⟨"RecordsOffice", "eventDay", "(LRecordsOffice$Filed;)I"⟩, 11) := ⟨⟨by decide +kernel, by decide +kernel⟩, List.mem_of_getElem? (i := 20) (by decide +kernel), List.mem_of_getElem? (i := 498) (by decide +kernel), List.mem_of_getElem? (i := 499) (by decide +kernel)⟩
theorem lw_p9 : lw_okq (⟨"RecordsOffice", "needRight", "(II)V"⟩, 11) := ⟨⟨by decide +kernel, by decide +kernel⟩, List.mem_of_getElem? (i := 20) (by decide +kernel), List.mem_of_getElem? (i := 560) (by decide +kernel), List.mem_of_getElem? (i := 561) (by decide +kernel)⟩
theorem lw_p10 : lw_okq (⟨"RecordsOffice", "ripeOn", "(I)J"⟩, 11) := ⟨⟨by decide +kernel, by decide +kernel⟩, List.mem_of_getElem? (i := 20) (by decide +kernel), List.mem_of_getElem? (i := 566) (by decide +kernel), List.mem_of_getElem? (i := 567) (by decide +kernel)⟩
theorem lw_p11 : lw_okq (⟨"RecordsOffice", "listAt", "(I)LRecordsOffice$DueList;"⟩, 11) := ⟨⟨by decide +kernel, by decide +kernel⟩, List.mem_of_getElem? (i := 20) (by decide +kernel), List.mem_of_getElem? (i := 609) (by decide +kernel), List.mem_of_getElem? (i := 610) (by decide +kernel)⟩
theorem lw_p12 : lw_okq (⟨"RecordsOffice", "destroyAll", "(JII)V"⟩, 11) := ⟨⟨by decide +kernel, by decide +kernel⟩, List.mem_of_getElem? (i := 20) (by decide +kernel), List.mem_of_getElem? (i := 676) (by decide +kernel), List.mem_of_getElem? (i := 677) (by decide +kernel)⟩
theorem lw_p13 : lw_okq (⟨"RecordsOffice", "bytesKept", "()I"⟩, 11) := ⟨⟨by decide +kernel, by decide +kernel⟩, List.mem_of_getElem? (i := 20) (by decide +kernel), List.mem_of_getElem? (i := 687) (by decide +kernel), List.mem_of_getElem? (i := 688) (by decide +kernel)⟩
theorem lw_p14 : lw_okq (⟨"RecordsOffice", "needAct", "(I)V"⟩, 11) := ⟨⟨by decide +kernel, by decide +kernel⟩, List.mem_of_getElem? (i := 20) (by decide +kernel), List.mem_of_getElem? (i := 699) (by decide +kernel), List.mem_of_getElem? (i := 700) (by decide +kernel)⟩
theorem lw_p15 : lw_okq (⟨"RecordsOfficeModel", "isVersion", "(IIIII)Z"⟩, 34) := ⟨⟨by decide +kernel, by decide +kernel⟩, List.mem_of_getElem? (i := 730) (by decide +kernel), List.mem_of_getElem? (i := 874) (by decide +kernel), List.mem_of_getElem? (i := 875) (by decide +kernel)⟩
def lw_privs_1 : List (MethodName × Nat) := [(⟨"RecordsOffice", "digestOf", "(I)J"⟩, 11), (⟨"java/lang/Throwable", "fillInStackTrace", "(I)Ljava/lang/Throwable;"⟩, 6), (⟨"RecordsOffice", "needRoom", "(I)V"⟩, 11), (⟨"RecordsOffice", "folderAt", "(I)LRecordsOffice$Folder;"⟩, 11), (⟨"RecordsOffice", "needDayOfAct", "(I)V"⟩, 11), (⟨"RecordsOffice", "recordAt", "(I)LRecordsOffice$Filed;"⟩, 11), (⟨"RecordsOffice", "holdsOver", "(LRecordsOffice$Filed;)I"⟩, 11), (⟨"RecordsOffice", "dueDay", "(LRecordsOffice$Filed;)I"⟩, 11), (⟨"RecordsOffice", "eventDay", "(LRecordsOffice$Filed;)I"⟩, 11), (⟨"RecordsOffice", "needRight", "(II)V"⟩, 11), (⟨"RecordsOffice", "ripeOn", "(I)J"⟩, 11), (⟨"RecordsOffice", "listAt", "(I)LRecordsOffice$DueList;"⟩, 11), (⟨"RecordsOffice", "destroyAll", "(JII)V"⟩, 11), (⟨"RecordsOffice", "bytesKept", "()I"⟩, 11), (⟨"RecordsOffice", "needAct", "(I)V"⟩, 11), (⟨"RecordsOfficeModel", "isVersion", "(IIIII)Z"⟩, 34)]
theorem lw_r1 : ∀ q ∈ lw_privs_1, lw_okq q := List.forall_mem_cons.mpr ⟨lw_p0, List.forall_mem_cons.mpr ⟨lw_p1, List.forall_mem_cons.mpr ⟨lw_p2, List.forall_mem_cons.mpr ⟨lw_p3, List.forall_mem_cons.mpr ⟨lw_p4, List.forall_mem_cons.mpr ⟨lw_p5, List.forall_mem_cons.mpr ⟨lw_p6, List.forall_mem_cons.mpr ⟨lw_p7, List.forall_mem_cons.mpr ⟨lw_p8, List.forall_mem_cons.mpr ⟨lw_p9, List.forall_mem_cons.mpr ⟨lw_p10, List.forall_mem_cons.mpr ⟨lw_p11, List.forall_mem_cons.mpr ⟨lw_p12, List.forall_mem_cons.mpr ⟨lw_p13, List.forall_mem_cons.mpr ⟨lw_p14, List.forall_mem_cons.mpr ⟨lw_p15, fun _ h => absurd h List.not_mem_nil⟩⟩⟩⟩⟩⟩⟩⟩⟩⟩⟩⟩⟩⟩⟩⟩
theorem lw_p16 : lw_okq (⟨"RecordsOfficeModel", "hasRoom", "(I)Z"⟩, 34) := ⟨⟨by decide +kernel, by decide +kernel⟩, List.mem_of_getElem? (i := 730) (by decide +kernel), List.mem_of_getElem? (i := 878) (by decide +kernel), List.mem_of_getElem? (i := 879) (by decide +kernel)⟩
theorem lw_p17 : lw_okq (⟨"RecordsOfficeModel", "write", "(IIII)V"⟩, 34) := ⟨⟨by decide +kernel, by decide +kernel⟩, List.mem_of_getElem? (i := 730) (by decide +kernel), List.mem_of_getElem? (i := 882) (by decide +kernel), List.mem_of_getElem? (i := 883) (by decide +kernel)⟩
theorem lw_p18 : lw_okq (⟨"RecordsOfficeModel", "linkOf", "(I)J"⟩, 34) := ⟨⟨by decide +kernel, by decide +kernel⟩, List.mem_of_getElem? (i := 730) (by decide +kernel), List.mem_of_getElem? (i := 886) (by decide +kernel), List.mem_of_getElem? (i := 887) (by decide +kernel)⟩
theorem lw_p19 : lw_okq (⟨"RecordsOfficeModel", "noFolder", "(I)Z"⟩, 34) := ⟨⟨by decide +kernel, by decide +kernel⟩, List.mem_of_getElem? (i := 730) (by decide +kernel), List.mem_of_getElem? (i := 906) (by decide +kernel), List.mem_of_getElem? (i := 907) (by decide +kernel)⟩
theorem lw_p20 : lw_okq (⟨"RecordsOfficeModel", "isDay", "(I)Z"⟩, 34) := ⟨⟨by decide +kernel, by decide +kernel⟩, List.mem_of_getElem? (i := 730) (by decide +kernel), List.mem_of_getElem? (i := 910) (by decide +kernel), List.mem_of_getElem? (i := 911) (by decide +kernel)⟩
theorem lw_p21 : lw_okq (⟨"RecordsOfficeModel", "noRecord", "(I)Z"⟩, 34) := ⟨⟨by decide +kernel, by decide +kernel⟩, List.mem_of_getElem? (i := 730) (by decide +kernel), List.mem_of_getElem? (i := 927) (by decide +kernel), List.mem_of_getElem? (i := 928) (by decide +kernel)⟩
theorem lw_p22 : lw_okq (⟨"RecordsOfficeModel", "holds", "(I)I"⟩, 34) := ⟨⟨by decide +kernel, by decide +kernel⟩, List.mem_of_getElem? (i := 730) (by decide +kernel), List.mem_of_getElem? (i := 931) (by decide +kernel), List.mem_of_getElem? (i := 932) (by decide +kernel)⟩
theorem lw_p23 : lw_okq (⟨"RecordsOfficeModel", "hasKey", "(II)Z"⟩, 34) := ⟨⟨by decide +kernel, by decide +kernel⟩, List.mem_of_getElem? (i := 730) (by decide +kernel), List.mem_of_getElem? (i := 935) (by decide +kernel), List.mem_of_getElem? (i := 936) (by decide +kernel)⟩
theorem lw_p24 : lw_okq (⟨"RecordsOfficeModel", "dueOf", "(I)I"⟩, 34) := ⟨⟨by decide +kernel, by decide +kernel⟩, List.mem_of_getElem? (i := 730) (by decide +kernel), List.mem_of_getElem? (i := 943) (by decide +kernel), List.mem_of_getElem? (i := 944) (by decide +kernel)⟩
theorem lw_p25 : lw_okq (⟨"RecordsOfficeModel", "fiscalEnd", "(I)I"⟩, 34) := ⟨⟨by decide +kernel, by decide +kernel⟩, List.mem_of_getElem? (i := 730) (by decide +kernel), List.mem_of_getElem? (i := 947) (by decide +kernel), List.mem_of_getElem? (i := 948) (by decide +kernel)⟩
theorem lw_p26 : lw_okq (⟨"RecordsOfficeModel", "termFor", "(II)I"⟩, 34) := ⟨⟨by decide +kernel, by decide +kernel⟩, List.mem_of_getElem? (i := 730) (by decide +kernel), List.mem_of_getElem? (i := 951) (by decide +kernel), List.mem_of_getElem? (i := 952) (by decide +kernel)⟩
theorem lw_p27 : lw_okq (⟨"RecordsOfficeModel", "keyCount", "(I)I"⟩, 34) := ⟨⟨by decide +kernel, by decide +kernel⟩, List.mem_of_getElem? (i := 730) (by decide +kernel), List.mem_of_getElem? (i := 959) (by decide +kernel), List.mem_of_getElem? (i := 960) (by decide +kernel)⟩
theorem lw_p28 : lw_okq (⟨"RecordsOfficeModel", "mayGo", "(II)Z"⟩, 34) := ⟨⟨by decide +kernel, by decide +kernel⟩, List.mem_of_getElem? (i := 730) (by decide +kernel), List.mem_of_getElem? (i := 983) (by decide +kernel), List.mem_of_getElem? (i := 984) (by decide +kernel)⟩
theorem lw_p29 : lw_okq (⟨"RecordsOfficeModel", "noOfficer", "(I)Z"⟩, 34) := ⟨⟨by decide +kernel, by decide +kernel⟩, List.mem_of_getElem? (i := 730) (by decide +kernel), List.mem_of_getElem? (i := 987) (by decide +kernel), List.mem_of_getElem? (i := 988) (by decide +kernel)⟩
theorem lw_p30 : lw_okq (⟨"RecordsOfficeModel", "hasRight", "(II)Z"⟩, 34) := ⟨⟨by decide +kernel, by decide +kernel⟩, List.mem_of_getElem? (i := 730) (by decide +kernel), List.mem_of_getElem? (i := 991) (by decide +kernel), List.mem_of_getElem? (i := 992) (by decide +kernel)⟩
theorem lw_p31 : lw_okq (⟨"RecordsOfficeModel", "noList", "(I)Z"⟩, 34) := ⟨⟨by decide +kernel, by decide +kernel⟩, List.mem_of_getElem? (i := 730) (by decide +kernel), List.mem_of_getElem? (i := 999) (by decide +kernel), List.mem_of_getElem? (i := 1000) (by decide +kernel)⟩
def lw_privs_2 : List (MethodName × Nat) := [(⟨"RecordsOfficeModel", "hasRoom", "(I)Z"⟩, 34), (⟨"RecordsOfficeModel", "write", "(IIII)V"⟩, 34), (⟨"RecordsOfficeModel", "linkOf", "(I)J"⟩, 34), (⟨"RecordsOfficeModel", "noFolder", "(I)Z"⟩, 34), (⟨"RecordsOfficeModel", "isDay", "(I)Z"⟩, 34), (⟨"RecordsOfficeModel", "noRecord", "(I)Z"⟩, 34), (⟨"RecordsOfficeModel", "holds", "(I)I"⟩, 34), (⟨"RecordsOfficeModel", "hasKey", "(II)Z"⟩, 34), (⟨"RecordsOfficeModel", "dueOf", "(I)I"⟩, 34), (⟨"RecordsOfficeModel", "fiscalEnd", "(I)I"⟩, 34), (⟨"RecordsOfficeModel", "termFor", "(II)I"⟩, 34), (⟨"RecordsOfficeModel", "keyCount", "(I)I"⟩, 34), (⟨"RecordsOfficeModel", "mayGo", "(II)Z"⟩, 34), (⟨"RecordsOfficeModel", "noOfficer", "(I)Z"⟩, 34), (⟨"RecordsOfficeModel", "hasRight", "(II)Z"⟩, 34), (⟨"RecordsOfficeModel", "noList", "(I)Z"⟩, 34)]
theorem lw_r2 : ∀ q ∈ lw_privs_2, lw_okq q := List.forall_mem_cons.mpr ⟨lw_p16, List.forall_mem_cons.mpr ⟨lw_p17, List.forall_mem_cons.mpr ⟨lw_p18, List.forall_mem_cons.mpr ⟨lw_p19, List.forall_mem_cons.mpr ⟨lw_p20, List.forall_mem_cons.mpr ⟨lw_p21, List.forall_mem_cons.mpr ⟨lw_p22, List.forall_mem_cons.mpr ⟨lw_p23, List.forall_mem_cons.mpr ⟨lw_p24, List.forall_mem_cons.mpr ⟨lw_p25, List.forall_mem_cons.mpr ⟨lw_p26, List.forall_mem_cons.mpr ⟨lw_p27, List.forall_mem_cons.mpr ⟨lw_p28, List.forall_mem_cons.mpr ⟨lw_p29, List.forall_mem_cons.mpr ⟨lw_p30, List.forall_mem_cons.mpr ⟨lw_p31, fun _ h => absurd h List.not_mem_nil⟩⟩⟩⟩⟩⟩⟩⟩⟩⟩⟩⟩⟩⟩⟩⟩
theorem lw_p32 : lw_okq (⟨"RecordsOfficeModel", "placeOn", "(II)I"⟩, 34) := ⟨⟨by decide +kernel, by decide +kernel⟩, List.mem_of_getElem? (i := 730) (by decide +kernel), List.mem_of_getElem? (i := 1014) (by decide +kernel), List.mem_of_getElem? (i := 1015) (by decide +kernel)⟩
theorem lw_p33 : lw_okq (⟨"RecordsOfficeModel", "noAct", "(I)Z"⟩, 34) := ⟨⟨by decide +kernel, by decide +kernel⟩, List.mem_of_getElem? (i := 730) (by decide +kernel), List.mem_of_getElem? (i := 1030) (by decide +kernel), List.mem_of_getElem? (i := 1031) (by decide +kernel)⟩
def lw_privs_3 : List (MethodName × Nat) := [(⟨"RecordsOfficeModel", "placeOn", "(II)I"⟩, 34), (⟨"RecordsOfficeModel", "noAct", "(I)Z"⟩, 34)]
theorem lw_r3 : ∀ q ∈ lw_privs_3, lw_okq q := List.forall_mem_cons.mpr ⟨lw_p32, List.forall_mem_cons.mpr ⟨lw_p33, fun _ h => absurd h List.not_mem_nil⟩⟩
def lw_privs : List (MethodName × Nat) := lw_privs_1 ++ (lw_privs_2 ++ (lw_privs_3))
def lw_tbl : List Cond := k2_sels lw_privs ++ tables_1
theorem lw_privs_ok : ∀ q ∈ lw_privs, lw_okq q := by
  show ∀ q ∈ lw_privs_1 ++ (lw_privs_2 ++ (lw_privs_3)), lw_okq q
  exact List.forall_mem_append.mpr ⟨lw_r1, List.forall_mem_append.mpr ⟨lw_r2, lw_r3⟩⟩
-- ===== end of PART A; then your names; then what follows =====
end
section
/-! ===== BEGIN words of one list among another's, by their places ===== -/
theorem goodIn_r {big : List Cond} (ws : List Cond) (ps : List Nat) (hp : ws = ps.filterMap (fun i => big[i]?)) (h : ws.all goodWord = true) : GoodIn big ws := by
  intro w hw
  have h1 := List.all_eq_true.mp h w hw
  rw [hp] at hw
  obtain ⟨i, -, hi⟩ := List.mem_filterMap.mp hw
  have hm : w ∈ big := by first | exact List.mem_of_getElem? hi | exact List.getElem?_mem hi
  exact ⟨hm, good_of_word h1⟩
theorem goodIn_app {big a b : List Cond} (ha : GoodIn big a) (hb : GoodIn big b) : GoodIn big (a ++ b) := fun w h => (List.mem_append.mp h).elim (ha w) (hb w)
theorem goodIn_ca {big a b : List Cond} {c : Cond} (ha : GoodIn big (c :: a)) (hb : GoodIn big b) : GoodIn big (c :: (a ++ b)) := fun w h => (List.mem_cons.mp h).elim (fun e => ha w (List.mem_cons.mpr (Or.inl e))) (fun h => (List.mem_append.mp h).elim (fun h => ha w (List.mem_cons.mpr (Or.inr h))) (hb w))
theorem goodIn_sub {big ws : List Cond} (hm : ∀ w ∈ ws, w ∈ big) (h : ws.all goodWord = true) : GoodIn big ws := fun w hw => ⟨hm w hw, good_of_word (List.all_eq_true.mp h w hw)⟩
/-! ===== END ===== -/

def RX0 : String := "RecordsOffice$Book"
def TX0 : u_T := fun k => match k with
  | 0 => ("RecordsOffice$Book", "numbers", "[I", true)
  | 1 => ("RecordsOffice$Book", "links", "[J", true)
  | _ => ("RecordsOffice$Book", "size", "I", false)
def tyX0 : Nat → FieldType := fun k => match k with
  | 0 => .array .int
  | 1 => .array .long
  | _ => .int
abbrev wsX00 : List Cond := u_ws RX0 TX0 3
theorem nmX0 : ∀ a, a < 3 → ∀ b, b < 3 → a ≠ b → (TX0 a).2.1 ≠ (TX0 b).2.1 := by decide +kernel
theorem tyX0_ok : ∀ k, k < 3 → parseFieldDescriptor (TX0 k).2.2.1 = some (tyX0 k) := by decide +kernel
abbrev cX0_init : ByteArray := prog_2_method_1_code
def yX0_init : MethodName := ⟨RX0, "<init>", "()V"⟩
abbrev cX0_number : ByteArray := prog_2_method_2_code
def yX0_number : MethodName := ⟨RX0, "number", "(II)I"⟩
abbrev cX0_setNumber : ByteArray := prog_2_method_3_code
def yX0_setNumber : MethodName := ⟨RX0, "setNumber", "(III)V"⟩
abbrev cX0_write : ByteArray := prog_2_method_4_code
def yX0_write : MethodName := ⟨RX0, "write", "(IIIIJ)V"⟩
abbrev cX0_linkFor : ByteArray := prog_2_method_5_code
def yX0_linkFor : MethodName := ⟨RX0, "linkFor", "(IJ)J"⟩
abbrev cX0_mix : ByteArray := prog_2_method_6_code
def yX0_mix : MethodName := ⟨RX0, "mix", "(JJ)J"⟩
def RX1 : String := "RecordsOffice$Days"
def TX1 : u_T := fun k => match k with
  | _ => ("", "", "", false)
def tyX1 : Nat → FieldType := fun k => match k with
  | _ => .int
abbrev wsX10 : List Cond := u_ws RX1 TX1 0
theorem nmX1 : ∀ a, a < 0 → ∀ b, b < 0 → a ≠ b → (TX1 a).2.1 ≠ (TX1 b).2.1 := by decide +kernel
theorem tyX1_ok : ∀ k, k < 0 → parseFieldDescriptor (TX1 k).2.2.1 = some (tyX1 k) := by decide +kernel
abbrev cX1_firstOf : ByteArray := prog_3_method_2_code
def yX1_firstOf : MethodName := ⟨RX1, "firstOf", "(I)I"⟩
abbrev cX1_monthOf : ByteArray := prog_3_method_3_code
def yX1_monthOf : MethodName := ⟨RX1, "monthOf", "(I)I"⟩
abbrev cX1_plus : ByteArray := prog_3_method_4_code
def yX1_plus : MethodName := ⟨RX1, "plus", "(II)I"⟩
abbrev cX1_fiscalEnd : ByteArray := prog_3_method_5_code
def yX1_fiscalEnd : MethodName := ⟨RX1, "fiscalEnd", "(II)I"⟩
def RX2 : String := "RecordsOffice$DueList"
def TX2 : u_T := fun k => match k with
  | 0 => ("RecordsOffice$DueList", "drawnBy", "I", true)
  | 1 => ("RecordsOffice$DueList", "members", "J", false)
  | 2 => ("RecordsOffice$DueList", "approvers", "I", false)
  | _ => ("RecordsOffice$DueList", "isOpen", "Z", false)
def tyX2 : Nat → FieldType := fun k => match k with
  | 0 => .int
  | 1 => .long
  | 2 => .int
  | _ => .boolean
abbrev wsX20 : List Cond := u_ws RX2 TX2 4
theorem nmX2 : ∀ a, a < 4 → ∀ b, b < 4 → a ≠ b → (TX2 a).2.1 ≠ (TX2 b).2.1 := by decide +kernel
theorem tyX2_ok : ∀ k, k < 4 → parseFieldDescriptor (TX2 k).2.2.1 = some (tyX2 k) := by decide +kernel
abbrev cX2_init : ByteArray := prog_4_method_1_code
def yX2_init : MethodName := ⟨RX2, "<init>", "(IJ)V"⟩
abbrev cX2_size : ByteArray := prog_4_method_2_code
def yX2_size : MethodName := ⟨RX2, "size", "()I"⟩
abbrev cX2_has : ByteArray := prog_4_method_3_code
def yX2_has : MethodName := ⟨RX2, "has", "(I)Z"⟩
abbrev cX2_remove : ByteArray := prog_4_method_4_code
def yX2_remove : MethodName := ⟨RX2, "remove", "(I)V"⟩
abbrev cX2_recordAtPlace : ByteArray := prog_4_method_5_code
def yX2_recordAtPlace : MethodName := ⟨RX2, "recordAtPlace", "(I)I"⟩
abbrev cX2_isApprovedBy : ByteArray := prog_4_method_6_code
def yX2_isApprovedBy : MethodName := ⟨RX2, "isApprovedBy", "(I)Z"⟩
abbrev cX2_addApproval : ByteArray := prog_4_method_7_code
def yX2_addApproval : MethodName := ⟨RX2, "addApproval", "(I)V"⟩
abbrev cX2_approvals : ByteArray := prog_4_method_8_code
def yX2_approvals : MethodName := ⟨RX2, "approvals", "()I"⟩
def RX3 : String := "RecordsOffice$Filed"
def TX3 : u_T := fun k => match k with
  | 0 => ("RecordsOffice$Filed", "folder", "LRecordsOffice$Folder;", true)
  | 1 => ("RecordsOffice$Filed", "size", "I", true)
  | 2 => ("RecordsOffice$Filed", "digest", "J", true)
  | 3 => ("RecordsOffice$Filed", "a", "I", true)
  | 4 => ("RecordsOffice$Filed", "b", "I", true)
  | 5 => ("RecordsOffice$Filed", "c", "I", true)
  | 6 => ("RecordsOffice$Filed", "day", "I", true)
  | _ => ("RecordsOffice$Filed", "destroyed", "Z", false)
def tyX3 : Nat → FieldType := fun k => match k with
  | 0 => .object "RecordsOffice$Folder"
  | 1 => .int
  | 2 => .long
  | 3 => .int
  | 4 => .int
  | 5 => .int
  | 6 => .int
  | _ => .boolean
abbrev wsX30 : List Cond := u_ws RX3 TX3 8
theorem nmX3 : ∀ a, a < 8 → ∀ b, b < 8 → a ≠ b → (TX3 a).2.1 ≠ (TX3 b).2.1 := by decide +kernel
theorem tyX3_ok : ∀ k, k < 8 → parseFieldDescriptor (TX3 k).2.2.1 = some (tyX3 k) := by decide +kernel
abbrev cX3_init : ByteArray := prog_5_method_1_code
def yX3_init : MethodName := ⟨RX3, "<init>", "(LRecordsOffice$Folder;IJIIII)V"⟩
abbrev cX3_hasKey : ByteArray := prog_5_method_2_code
def yX3_hasKey : MethodName := ⟨RX3, "hasKey", "(I)Z"⟩
abbrev cX3_keyCount : ByteArray := prog_5_method_3_code
def yX3_keyCount : MethodName := ⟨RX3, "keyCount", "()I"⟩
abbrev cX3_isFiledFrom : ByteArray := prog_5_method_4_code
def yX3_isFiledFrom : MethodName := ⟨RX3, "isFiledFrom", "(II)Z"⟩
def RX4 : String := "RecordsOffice$Folder"
def TX4 : u_T := fun k => match k with
  | 0 => ("RecordsOffice$Folder", "number", "I", true)
  | 1 => ("RecordsOffice$Folder", "cls", "I", true)
  | 2 => ("RecordsOffice$Folder", "closedDay", "I", false)
  | _ => ("RecordsOffice$Folder", "leftDay", "I", false)
def tyX4 : Nat → FieldType := fun k => match k with
  | 0 => .int
  | 1 => .int
  | 2 => .int
  | _ => .int
abbrev wsX40 : List Cond := u_ws RX4 TX4 4
theorem nmX4 : ∀ a, a < 4 → ∀ b, b < 4 → a ≠ b → (TX4 a).2.1 ≠ (TX4 b).2.1 := by decide +kernel
theorem tyX4_ok : ∀ k, k < 4 → parseFieldDescriptor (TX4 k).2.2.1 = some (tyX4 k) := by decide +kernel
abbrev cX4_init : ByteArray := prog_6_method_1_code
def yX4_init : MethodName := ⟨RX4, "<init>", "(II)V"⟩
def RX5 : String := "RecordsOffice$Hold"
def TX5 : u_T := fun k => match k with
  | 0 => ("RecordsOffice$Hold", "placed", "Z", false)
  | 1 => ("RecordsOffice$Hold", "folder", "I", false)
  | 2 => ("RecordsOffice$Hold", "cls", "I", false)
  | 3 => ("RecordsOffice$Hold", "key", "I", false)
  | 4 => ("RecordsOffice$Hold", "first", "I", false)
  | _ => ("RecordsOffice$Hold", "last", "I", false)
def tyX5 : Nat → FieldType := fun k => match k with
  | 0 => .boolean
  | 1 => .int
  | 2 => .int
  | 3 => .int
  | 4 => .int
  | _ => .int
abbrev wsX50 : List Cond := u_ws RX5 TX5 6
theorem nmX5 : ∀ a, a < 6 → ∀ b, b < 6 → a ≠ b → (TX5 a).2.1 ≠ (TX5 b).2.1 := by decide +kernel
theorem tyX5_ok : ∀ k, k < 6 → parseFieldDescriptor (TX5 k).2.2.1 = some (tyX5 k) := by decide +kernel
abbrev cX5_init : ByteArray := prog_7_method_1_code
def yX5_init : MethodName := ⟨RX5, "<init>", "()V"⟩
abbrev cX5_place : ByteArray := prog_7_method_2_code
def yX5_place : MethodName := ⟨RX5, "place", "(IIIII)V"⟩
abbrev cX5_covers : ByteArray := prog_7_method_3_code
def yX5_covers : MethodName := ⟨RX5, "covers", "(LRecordsOffice$Filed;)Z"⟩
def RX6 : String := "RecordsOffice$Schedule"
def TX6 : u_T := fun k => match k with
  | 0 => ("RecordsOffice$Schedule", "firstDays", "[I", true)
  | 1 => ("RecordsOffice$Schedule", "terms", "[I", true)
  | 2 => ("RecordsOffice$Schedule", "forAll", "[Z", true)
  | 3 => ("RecordsOffice$Schedule", "event", "I", false)
  | _ => ("RecordsOffice$Schedule", "size", "I", false)
def tyX6 : Nat → FieldType := fun k => match k with
  | 0 => .array .int
  | 1 => .array .int
  | 2 => .array .boolean
  | 3 => .int
  | _ => .int
abbrev wsX60 : List Cond := u_ws RX6 TX6 5
theorem nmX6 : ∀ a, a < 5 → ∀ b, b < 5 → a ≠ b → (TX6 a).2.1 ≠ (TX6 b).2.1 := by decide +kernel
theorem tyX6_ok : ∀ k, k < 5 → parseFieldDescriptor (TX6 k).2.2.1 = some (tyX6 k) := by decide +kernel
abbrev cX6_init : ByteArray := prog_8_method_1_code
def yX6_init : MethodName := ⟨RX6, "<init>", "()V"⟩
abbrev cX6_goesOnWith : ByteArray := prog_8_method_2_code
def yX6_goesOnWith : MethodName := ⟨RX6, "goesOnWith", "(II)Z"⟩
abbrev cX6_add : ByteArray := prog_8_method_3_code
def yX6_add : MethodName := ⟨RX6, "add", "(IIZI)V"⟩
abbrev cX6_termFor : ByteArray := prog_8_method_4_code
def yX6_termFor : MethodName := ⟨RX6, "termFor", "(I)I"⟩
def RX7 : String := "RecordsOffice"
def TX7 : u_T := fun k => match k with
  | 0 => ("RecordsOffice", "rights", "[I", true)
  | 1 => ("RecordsOffice", "schedules", "[LRecordsOffice$Schedule;", true)
  | 2 => ("RecordsOffice", "folders", "[LRecordsOffice$Folder;", true)
  | 3 => ("RecordsOffice", "holds", "[LRecordsOffice$Hold;", true)
  | 4 => ("RecordsOffice", "records", "[LRecordsOffice$Filed;", true)
  | 5 => ("RecordsOffice", "lists", "[LRecordsOffice$DueList;", true)
  | 6 => ("RecordsOffice", "book", "LRecordsOffice$Book;", true)
  | 7 => ("RecordsOffice", "recordCount", "I", false)
  | 8 => ("RecordsOffice", "listCount", "I", false)
  | 9 => ("RecordsOffice", "today", "I", false)
  | _ => ("RecordsOffice", "fiscalMonth", "I", false)
def tyX7 : Nat → FieldType := fun k => match k with
  | 0 => .array .int
  | 1 => .array (.object "RecordsOffice$Schedule")
  | 2 => .array (.object "RecordsOffice$Folder")
  | 3 => .array (.object "RecordsOffice$Hold")
  | 4 => .array (.object "RecordsOffice$Filed")
  | 5 => .array (.object "RecordsOffice$DueList")
  | 6 => .object "RecordsOffice$Book"
  | 7 => .int
  | 8 => .int
  | 9 => .int
  | _ => .int
abbrev wsX70 : List Cond := u_ws RX7 TX7 11
theorem nmX7 : ∀ a, a < 11 → ∀ b, b < 11 → a ≠ b → (TX7 a).2.1 ≠ (TX7 b).2.1 := by decide +kernel
theorem tyX7_ok : ∀ k, k < 11 → parseFieldDescriptor (TX7 k).2.2.1 = some (tyX7 k) := by decide +kernel
abbrev cX7_init : ByteArray := prog_1_method_1_code
def yX7_init : MethodName := ⟨RX7, "<init>", "()V"⟩
abbrev cX7_officer : ByteArray := prog_1_method_2_code
def yX7_officer : MethodName := ⟨RX7, "officer", "(II)V"⟩
abbrev cX7_version : ByteArray := prog_1_method_3_code
def yX7_version : MethodName := ⟨RX7, "version", "(IIIIZI)I"⟩
abbrev cX7_fiscal : ByteArray := prog_1_method_4_code
def yX7_fiscal : MethodName := ⟨RX7, "fiscal", "(I)V"⟩
abbrev cX7_open : ByteArray := prog_1_method_5_code
def yX7_open : MethodName := ⟨RX7, "open", "(II)V"⟩
abbrev cX7_close : ByteArray := prog_1_method_6_code
def yX7_close : MethodName := ⟨RX7, "close", "(II)V"⟩
abbrev cX7_left : ByteArray := prog_1_method_7_code
def yX7_left : MethodName := ⟨RX7, "left", "(II)V"⟩
abbrev cX7_file : ByteArray := prog_1_method_8_code
def yX7_file : MethodName := ⟨RX7, "file", "(IIJIIII)I"⟩
abbrev cX7_hold : ByteArray := prog_1_method_9_code
def yX7_hold : MethodName := ⟨RX7, "hold", "(IIIIII)V"⟩
abbrev cX7_lift : ByteArray := prog_1_method_10_code
def yX7_lift : MethodName := ⟨RX7, "lift", "(I)V"⟩
abbrev cX7_covered : ByteArray := prog_1_method_11_code
def yX7_covered : MethodName := ⟨RX7, "covered", "(I)I"⟩
abbrev cX7_due : ByteArray := prog_1_method_12_code
def yX7_due : MethodName := ⟨RX7, "due", "(I)I"⟩
abbrev cX7_record : ByteArray := prog_1_method_13_code
def yX7_record : MethodName := ⟨RX7, "record", "(II)I"⟩
abbrev cX7_read : ByteArray := prog_1_method_14_code
def yX7_read : MethodName := ⟨RX7, "read", "(I)J"⟩
abbrev cX7_find : ByteArray := prog_1_method_15_code
def yX7_find : MethodName := ⟨RX7, "find", "(IIII)I"⟩
abbrev cX7_draw : ByteArray := prog_1_method_16_code
def yX7_draw : MethodName := ⟨RX7, "draw", "(II)I"⟩
abbrev cX7_listed : ByteArray := prog_1_method_17_code
def yX7_listed : MethodName := ⟨RX7, "listed", "(II)I"⟩
abbrev cX7_approve : ByteArray := prog_1_method_18_code
def yX7_approve : MethodName := ⟨RX7, "approve", "(II)I"⟩
abbrev cX7_strike : ByteArray := prog_1_method_19_code
def yX7_strike : MethodName := ⟨RX7, "strike", "(II)I"⟩
abbrev cX7_carry : ByteArray := prog_1_method_20_code
def yX7_carry : MethodName := ⟨RX7, "carry", "(III)I"⟩
abbrev cX7_count : ByteArray := prog_1_method_21_code
def yX7_count : MethodName := ⟨RX7, "count", "(I)I"⟩
abbrev cX7_act : ByteArray := prog_1_method_22_code
def yX7_act : MethodName := ⟨RX7, "act", "(II)I"⟩
abbrev cX7_link : ByteArray := prog_1_method_23_code
def yX7_link : MethodName := ⟨RX7, "link", "(I)J"⟩
abbrev cX7_spoil : ByteArray := prog_1_method_24_code
def yX7_spoil : MethodName := ⟨RX7, "spoil", "(III)V"⟩
abbrev cX7_broken : ByteArray := prog_1_method_25_code
def yX7_broken : MethodName := ⟨RX7, "broken", "()I"⟩
abbrev cX7_later : ByteArray := prog_1_method_26_code
def yX7_later : MethodName := ⟨RX7, "later", "(III)I"⟩
abbrev cX7_needClass : ByteArray := prog_1_method_27_code
def yX7_needClass : MethodName := ⟨RX7, "needClass", "(I)V"⟩
abbrev cX7_needHold : ByteArray := prog_1_method_28_code
def yX7_needHold : MethodName := ⟨RX7, "needHold", "(I)V"⟩
abbrev cX7_needOfficer : ByteArray := prog_1_method_29_code
def yX7_needOfficer : MethodName := ⟨RX7, "needOfficer", "(I)V"⟩
abbrev cX7_needAct : ByteArray := prog_1_method_30_code
def yX7_needAct : MethodName := ⟨RX7, "needAct", "(I)V"⟩
abbrev cX7_folderAt : ByteArray := prog_1_method_31_code
def yX7_folderAt : MethodName := ⟨RX7, "folderAt", "(I)LRecordsOffice$Folder;"⟩
abbrev cX7_recordAt : ByteArray := prog_1_method_32_code
def yX7_recordAt : MethodName := ⟨RX7, "recordAt", "(I)LRecordsOffice$Filed;"⟩
abbrev cX7_listAt : ByteArray := prog_1_method_33_code
def yX7_listAt : MethodName := ⟨RX7, "listAt", "(I)LRecordsOffice$DueList;"⟩
abbrev cX7_needTerm : ByteArray := prog_1_method_34_code
def yX7_needTerm : MethodName := ⟨RX7, "needTerm", "(II)V"⟩
abbrev cX7_needDay : ByteArray := prog_1_method_35_code
def yX7_needDay : MethodName := ⟨RX7, "needDay", "(I)V"⟩
abbrev cX7_needDayOfAct : ByteArray := prog_1_method_36_code
def yX7_needDayOfAct : MethodName := ⟨RX7, "needDayOfAct", "(I)V"⟩
abbrev cX7_needKeyOrNone : ByteArray := prog_1_method_37_code
def yX7_needKeyOrNone : MethodName := ⟨RX7, "needKeyOrNone", "(I)V"⟩
abbrev cX7_needNumberOfAct : ByteArray := prog_1_method_38_code
def yX7_needNumberOfAct : MethodName := ⟨RX7, "needNumberOfAct", "(I)V"⟩
abbrev cX7_needRoom : ByteArray := prog_1_method_39_code
def yX7_needRoom : MethodName := ⟨RX7, "needRoom", "(I)V"⟩
abbrev cX7_needRight : ByteArray := prog_1_method_40_code
def yX7_needRight : MethodName := ⟨RX7, "needRight", "(II)V"⟩
abbrev cX7_needOpen : ByteArray := prog_1_method_41_code
def yX7_needOpen : MethodName := ⟨RX7, "needOpen", "(LRecordsOffice$DueList;)V"⟩
abbrev cX7_holdsOver : ByteArray := prog_1_method_42_code
def yX7_holdsOver : MethodName := ⟨RX7, "holdsOver", "(LRecordsOffice$Filed;)I"⟩
abbrev cX7_eventDay : ByteArray := prog_1_method_43_code
def yX7_eventDay : MethodName := ⟨RX7, "eventDay", "(LRecordsOffice$Filed;)I"⟩
abbrev cX7_dueDay : ByteArray := prog_1_method_44_code
def yX7_dueDay : MethodName := ⟨RX7, "dueDay", "(LRecordsOffice$Filed;)I"⟩
abbrev cX7_ripeOn : ByteArray := prog_1_method_45_code
def yX7_ripeOn : MethodName := ⟨RX7, "ripeOn", "(I)J"⟩
abbrev cX7_destroyAll : ByteArray := prog_1_method_46_code
def yX7_destroyAll : MethodName := ⟨RX7, "destroyAll", "(JII)V"⟩
abbrev cX7_bytesKept : ByteArray := prog_1_method_47_code
def yX7_bytesKept : MethodName := ⟨RX7, "bytesKept", "()I"⟩
abbrev cX7_digestOf : ByteArray := prog_1_method_48_code
def yX7_digestOf : MethodName := ⟨RX7, "digestOf", "(I)J"⟩
def RX8 : String := "RecordsOfficeModel"
def TX8 : u_T := fun k => match k with
  | 0 => ("RecordsOfficeModel", "thrown", "I", false)
  | 1 => ("RecordsOfficeModel", "rights", "[I", true)
  | 2 => ("RecordsOfficeModel", "fiscal", "I", false)
  | 3 => ("RecordsOfficeModel", "today", "I", false)
  | 4 => ("RecordsOfficeModel", "events", "[I", true)
  | 5 => ("RecordsOfficeModel", "versions", "[I", true)
  | 6 => ("RecordsOfficeModel", "terms", "[I", true)
  | 7 => ("RecordsOfficeModel", "begins", "[I", true)
  | 8 => ("RecordsOfficeModel", "forAll", "[Z", true)
  | 9 => ("RecordsOfficeModel", "classes", "[I", true)
  | 10 => ("RecordsOfficeModel", "closed", "[I", true)
  | 11 => ("RecordsOfficeModel", "gone", "[I", true)
  | 12 => ("RecordsOfficeModel", "records", "I", false)
  | 13 => ("RecordsOfficeModel", "folders", "[I", true)
  | 14 => ("RecordsOfficeModel", "days", "[I", true)
  | 15 => ("RecordsOfficeModel", "sizes", "[I", true)
  | 16 => ("RecordsOfficeModel", "digests", "[J", true)
  | 17 => ("RecordsOfficeModel", "keys", "[I", true)
  | 18 => ("RecordsOfficeModel", "destroyed", "[Z", true)
  | 19 => ("RecordsOfficeModel", "placed", "[Z", true)
  | 20 => ("RecordsOfficeModel", "holdFolders", "[I", true)
  | 21 => ("RecordsOfficeModel", "holdClasses", "[I", true)
  | 22 => ("RecordsOfficeModel", "holdKeys", "[I", true)
  | 23 => ("RecordsOfficeModel", "holdFirsts", "[I", true)
  | 24 => ("RecordsOfficeModel", "holdLasts", "[I", true)
  | 25 => ("RecordsOfficeModel", "lists", "I", false)
  | 26 => ("RecordsOfficeModel", "listed", "[I", true)
  | 27 => ("RecordsOfficeModel", "lengths", "[I", true)
  | 28 => ("RecordsOfficeModel", "drawers", "[I", true)
  | 29 => ("RecordsOfficeModel", "approved", "[I", true)
  | 30 => ("RecordsOfficeModel", "carried", "[Z", true)
  | 31 => ("RecordsOfficeModel", "acts", "I", false)
  | 32 => ("RecordsOfficeModel", "numbers", "[I", true)
  | _ => ("RecordsOfficeModel", "links", "[J", true)
def tyX8 : Nat → FieldType := fun k => match k with
  | 0 => .int
  | 1 => .array .int
  | 2 => .int
  | 3 => .int
  | 4 => .array .int
  | 5 => .array .int
  | 6 => .array .int
  | 7 => .array .int
  | 8 => .array .boolean
  | 9 => .array .int
  | 10 => .array .int
  | 11 => .array .int
  | 12 => .int
  | 13 => .array .int
  | 14 => .array .int
  | 15 => .array .int
  | 16 => .array .long
  | 17 => .array .int
  | 18 => .array .boolean
  | 19 => .array .boolean
  | 20 => .array .int
  | 21 => .array .int
  | 22 => .array .int
  | 23 => .array .int
  | 24 => .array .int
  | 25 => .int
  | 26 => .array .int
  | 27 => .array .int
  | 28 => .array .int
  | 29 => .array .int
  | 30 => .array .boolean
  | 31 => .int
  | 32 => .array .int
  | _ => .array .long
abbrev wsX80 : List Cond := u_ws RX8 TX8 34
theorem nmX8 : ∀ a, a < 34 → ∀ b, b < 34 → a ≠ b → (TX8 a).2.1 ≠ (TX8 b).2.1 := by decide +kernel
theorem tyX8_ok : ∀ k, k < 34 → parseFieldDescriptor (TX8 k).2.2.1 = some (tyX8 k) := by decide +kernel
abbrev cX8_init : ByteArray := prog_10_method_1_code
def yX8_init : MethodName := ⟨RX8, "<init>", "()V"⟩
abbrev cX8_thrown : ByteArray := prog_10_method_2_code
def yX8_thrown : MethodName := ⟨RX8, "thrown", "()I"⟩
abbrev cX8_isIn : ByteArray := prog_10_method_3_code
def yX8_isIn : MethodName := ⟨RX8, "isIn", "(III)Z"⟩
abbrev cX8_inMonth : ByteArray := prog_10_method_4_code
def yX8_inMonth : MethodName := ⟨RX8, "inMonth", "(II)I"⟩
abbrev cX8_monthOf : ByteArray := prog_10_method_5_code
def yX8_monthOf : MethodName := ⟨RX8, "monthOf", "(I)I"⟩
abbrev cX8_begin : ByteArray := prog_10_method_6_code
def yX8_begin : MethodName := ⟨RX8, "begin", "(I)I"⟩
abbrev cX8_add : ByteArray := prog_10_method_7_code
def yX8_add : MethodName := ⟨RX8, "add", "(II)I"⟩
abbrev cX8_isTerm : ByteArray := prog_10_method_8_code
def yX8_isTerm : MethodName := ⟨RX8, "isTerm", "(II)Z"⟩
abbrev cX8_later : ByteArray := prog_10_method_9_code
def yX8_later : MethodName := ⟨RX8, "later", "(III)I"⟩
abbrev cX8_fiscalEnd : ByteArray := prog_10_method_10_code
def yX8_fiscalEnd : MethodName := ⟨RX8, "fiscalEnd", "(I)I"⟩
abbrev cX8_isDay : ByteArray := prog_10_method_11_code
def yX8_isDay : MethodName := ⟨RX8, "isDay", "(I)Z"⟩
abbrev cX8_linked : ByteArray := prog_10_method_12_code
def yX8_linked : MethodName := ⟨RX8, "linked", "(JJ)J"⟩
abbrev cX8_linkOf : ByteArray := prog_10_method_13_code
def yX8_linkOf : MethodName := ⟨RX8, "linkOf", "(I)J"⟩
abbrev cX8_write : ByteArray := prog_10_method_14_code
def yX8_write : MethodName := ⟨RX8, "write", "(IIII)V"⟩
abbrev cX8_hasRoom : ByteArray := prog_10_method_15_code
def yX8_hasRoom : MethodName := ⟨RX8, "hasRoom", "(I)Z"⟩
abbrev cX8_officer : ByteArray := prog_10_method_16_code
def yX8_officer : MethodName := ⟨RX8, "officer", "(II)V"⟩
abbrev cX8_isVersion : ByteArray := prog_10_method_17_code
def yX8_isVersion : MethodName := ⟨RX8, "isVersion", "(IIIII)Z"⟩
abbrev cX8_version : ByteArray := prog_10_method_18_code
def yX8_version : MethodName := ⟨RX8, "version", "(IIIIZI)I"⟩
abbrev cX8_fiscal : ByteArray := prog_10_method_19_code
def yX8_fiscal : MethodName := ⟨RX8, "fiscal", "(I)V"⟩
abbrev cX8_open : ByteArray := prog_10_method_20_code
def yX8_open : MethodName := ⟨RX8, "open", "(II)V"⟩
abbrev cX8_noFolder : ByteArray := prog_10_method_21_code
def yX8_noFolder : MethodName := ⟨RX8, "noFolder", "(I)Z"⟩
abbrev cX8_close : ByteArray := prog_10_method_22_code
def yX8_close : MethodName := ⟨RX8, "close", "(II)V"⟩
abbrev cX8_left : ByteArray := prog_10_method_23_code
def yX8_left : MethodName := ⟨RX8, "left", "(II)V"⟩
abbrev cX8_file : ByteArray := prog_10_method_24_code
def yX8_file : MethodName := ⟨RX8, "file", "(IIJIIII)I"⟩
abbrev cX8_noRecord : ByteArray := prog_10_method_25_code
def yX8_noRecord : MethodName := ⟨RX8, "noRecord", "(I)Z"⟩
abbrev cX8_hasKey : ByteArray := prog_10_method_26_code
def yX8_hasKey : MethodName := ⟨RX8, "hasKey", "(II)Z"⟩
abbrev cX8_holds : ByteArray := prog_10_method_27_code
def yX8_holds : MethodName := ⟨RX8, "holds", "(I)I"⟩
abbrev cX8_termFor : ByteArray := prog_10_method_28_code
def yX8_termFor : MethodName := ⟨RX8, "termFor", "(II)I"⟩
abbrev cX8_dueOf : ByteArray := prog_10_method_29_code
def yX8_dueOf : MethodName := ⟨RX8, "dueOf", "(I)I"⟩
abbrev cX8_mayGo : ByteArray := prog_10_method_30_code
def yX8_mayGo : MethodName := ⟨RX8, "mayGo", "(II)Z"⟩
abbrev cX8_covered : ByteArray := prog_10_method_31_code
def yX8_covered : MethodName := ⟨RX8, "covered", "(I)I"⟩
abbrev cX8_due : ByteArray := prog_10_method_32_code
def yX8_due : MethodName := ⟨RX8, "due", "(I)I"⟩
abbrev cX8_keyCount : ByteArray := prog_10_method_33_code
def yX8_keyCount : MethodName := ⟨RX8, "keyCount", "(I)I"⟩
abbrev cX8_record : ByteArray := prog_10_method_34_code
def yX8_record : MethodName := ⟨RX8, "record", "(II)I"⟩
abbrev cX8_read : ByteArray := prog_10_method_35_code
def yX8_read : MethodName := ⟨RX8, "read", "(I)J"⟩
abbrev cX8_find : ByteArray := prog_10_method_36_code
def yX8_find : MethodName := ⟨RX8, "find", "(IIII)I"⟩
abbrev cX8_hold : ByteArray := prog_10_method_37_code
def yX8_hold : MethodName := ⟨RX8, "hold", "(IIIIII)V"⟩
abbrev cX8_lift : ByteArray := prog_10_method_38_code
def yX8_lift : MethodName := ⟨RX8, "lift", "(I)V"⟩
abbrev cX8_noOfficer : ByteArray := prog_10_method_39_code
def yX8_noOfficer : MethodName := ⟨RX8, "noOfficer", "(I)Z"⟩
abbrev cX8_noList : ByteArray := prog_10_method_40_code
def yX8_noList : MethodName := ⟨RX8, "noList", "(I)Z"⟩
abbrev cX8_hasRight : ByteArray := prog_10_method_41_code
def yX8_hasRight : MethodName := ⟨RX8, "hasRight", "(II)Z"⟩
abbrev cX8_draw : ByteArray := prog_10_method_42_code
def yX8_draw : MethodName := ⟨RX8, "draw", "(II)I"⟩
abbrev cX8_listed : ByteArray := prog_10_method_43_code
def yX8_listed : MethodName := ⟨RX8, "listed", "(II)I"⟩
abbrev cX8_bits : ByteArray := prog_10_method_44_code
def yX8_bits : MethodName := ⟨RX8, "bits", "(I)I"⟩
abbrev cX8_approve : ByteArray := prog_10_method_45_code
def yX8_approve : MethodName := ⟨RX8, "approve", "(II)I"⟩
abbrev cX8_placeOn : ByteArray := prog_10_method_46_code
def yX8_placeOn : MethodName := ⟨RX8, "placeOn", "(II)I"⟩
abbrev cX8_strike : ByteArray := prog_10_method_47_code
def yX8_strike : MethodName := ⟨RX8, "strike", "(II)I"⟩
abbrev cX8_carry : ByteArray := prog_10_method_48_code
def yX8_carry : MethodName := ⟨RX8, "carry", "(III)I"⟩
abbrev cX8_count : ByteArray := prog_10_method_49_code
def yX8_count : MethodName := ⟨RX8, "count", "(I)I"⟩
abbrev cX8_noAct : ByteArray := prog_10_method_50_code
def yX8_noAct : MethodName := ⟨RX8, "noAct", "(I)Z"⟩
abbrev cX8_act : ByteArray := prog_10_method_51_code
def yX8_act : MethodName := ⟨RX8, "act", "(II)I"⟩
abbrev cX8_link : ByteArray := prog_10_method_52_code
def yX8_link : MethodName := ⟨RX8, "link", "(I)J"⟩
abbrev cX8_spoil : ByteArray := prog_10_method_53_code
def yX8_spoil : MethodName := ⟨RX8, "spoil", "(III)V"⟩
abbrev cX8_broken : ByteArray := prog_10_method_54_code
def yX8_broken : MethodName := ⟨RX8, "broken", "()I"⟩
def RJ6 : String := "java/lang/Integer"
def TJ6 : u_T := fun k => match k with
  | _ => ("", "", "", false)
def tyJ6 : Nat → FieldType := fun k => match k with
  | _ => .int
abbrev wsJ60 : List Cond := u_ws RJ6 TJ6 0
theorem nmJ6 : ∀ a, a < 0 → ∀ b, b < 0 → a ≠ b → (TJ6 a).2.1 ≠ (TJ6 b).2.1 := by decide +kernel
theorem tyJ6_ok : ∀ k, k < 0 → parseFieldDescriptor (TJ6 k).2.2.1 = some (tyJ6 k) := by decide +kernel
abbrev cJ6_bitCount_0f7a4 : ByteArray := prog_15_method_49_code
def yJ6_bitCount_0f7a4 : MethodName := ⟨RJ6, "bitCount", "(I)I"⟩
def RJ13 : String := "java/lang/Long"
def TJ13 : u_T := fun k => match k with
  | _ => ("", "", "", false)
def tyJ13 : Nat → FieldType := fun k => match k with
  | _ => .int
abbrev wsJ130 : List Cond := u_ws RJ13 TJ13 0
theorem nmJ13 : ∀ a, a < 0 → ∀ b, b < 0 → a ≠ b → (TJ13 a).2.1 ≠ (TJ13 b).2.1 := by decide +kernel
theorem tyJ13_ok : ∀ k, k < 0 → parseFieldDescriptor (TJ13 k).2.2.1 = some (tyJ13 k) := by decide +kernel
abbrev cJ13_bitCount_95d88 : ByteArray := prog_16_method_50_code
def yJ13_bitCount_95d88 : MethodName := ⟨RJ13, "bitCount", "(J)I"⟩
def RJ9 : String := "java/lang/Math"
def TJ9 : u_T := fun k => match k with
  | _ => ("", "", "", false)
def tyJ9 : Nat → FieldType := fun k => match k with
  | _ => .int
abbrev wsJ90 : List Cond := u_ws RJ9 TJ9 0
theorem nmJ9 : ∀ a, a < 0 → ∀ b, b < 0 → a ≠ b → (TJ9 a).2.1 ≠ (TJ9 b).2.1 := by decide +kernel
theorem tyJ9_ok : ∀ k, k < 0 → parseFieldDescriptor (TJ9 k).2.2.1 = some (tyJ9 k) := by decide +kernel
abbrev cJ9_min_7cf53 : ByteArray := prog_17_method_69_code
def yJ9_min_7cf53 : MethodName := ⟨RJ9, "min", "(II)I"⟩
def RJ0 : String := "java/lang/String"
def TJ0 : u_T := fun k => match k with
  | _ => ("", "", "", false)
def tyJ0 : Nat → FieldType := fun k => match k with
  | _ => .int
abbrev wsJ00 : List Cond := u_ws RJ0 TJ0 0
theorem nmJ0 : ∀ a, a < 0 → ∀ b, b < 0 → a ≠ b → (TJ0 a).2.1 ≠ (TJ0 b).2.1 := by decide +kernel
theorem tyJ0_ok : ∀ k, k < 0 → parseFieldDescriptor (TJ0 k).2.2.1 = some (tyJ0 k) := by decide +kernel
def RL : String := "RecordsOfficeLaw"
def wsX0_init : List Cond := .code yX0_init cX0_init 1 none :: ([.methodLink RX0 3 objectInit, .instanceMethod objectInit, .code objectInit ⟨#[0xb1]⟩ 1 none, .arrayClass .int, .fieldLink RX0 11 "RecordsOffice$Book" "numbers" "[I", .arrayClass .long, .fieldLink RX0 15 "RecordsOffice$Book" "links" "[J"] ++ wsX00)
def wsX0_number : List Cond := .code yX0_number cX0_number 3 (some .int) :: ([.fieldLink RX0 11 "RecordsOffice$Book" "numbers" "[I"] ++ wsX00)
def wsX0_setNumber : List Cond := .code yX0_setNumber cX0_setNumber 4 none :: ([.fieldLink RX0 11 "RecordsOffice$Book" "numbers" "[I"] ++ wsX00)
def wsX0_mix : List Cond := .code yX0_mix cX0_mix 6 (some .long) :: ([.constantLong RX0 39 (7046029254386353131)])
def wsX0_linkFor : List Cond := .code yX0_linkFor cX0_linkFor 7 (some .long) :: ([.fieldLink RX0 15 "RecordsOffice$Book" "links" "[J", .methodLink RX0 31 yX0_number, .instanceMethod yX0_number, .selects RX0 yX0_number yX0_number, .initialized RX0, .code yX0_number cX0_number 3 (some .int), .fieldLink RX0 11 "RecordsOffice$Book" "numbers" "[I", .methodLink RX0 35 yX0_mix, .static yX0_mix, .code yX0_mix cX0_mix 6 (some .long), .constantLong RX0 39 (7046029254386353131)] ++ wsX00)
def wsX0_write : List Cond := .code yX0_write cX0_write 8 none :: ([.fieldLink RX0 19 "RecordsOffice$Book" "size" "I", .fieldLink RX0 15 "RecordsOffice$Book" "links" "[J", .methodLink RX0 23 yX0_setNumber, .instanceMethod yX0_setNumber, .selects RX0 yX0_setNumber yX0_setNumber, .initialized RX0, .code yX0_setNumber cX0_setNumber 4 none, .fieldLink RX0 11 "RecordsOffice$Book" "numbers" "[I", .methodLink RX0 27 yX0_linkFor, .instanceMethod yX0_linkFor, .selects RX0 yX0_linkFor yX0_linkFor, .code yX0_linkFor cX0_linkFor 7 (some .long), .methodLink RX0 31 yX0_number, .instanceMethod yX0_number, .selects RX0 yX0_number yX0_number, .code yX0_number cX0_number 3 (some .int), .methodLink RX0 35 yX0_mix, .static yX0_mix, .code yX0_mix cX0_mix 6 (some .long), .constantLong RX0 39 (7046029254386353131)] ++ wsX00)
def wsX1_firstOf : List Cond := .code yX1_firstOf cX1_firstOf 5 (some .int) :: ([.fieldLink RX1 9 "RecordsOffice$Days" "BEFORE_MONTH" "[I"])
def wsX1_monthOf : List Cond := .code yX1_monthOf cX1_monthOf 2 (some .int) :: ([.methodLink RX1 13 yX1_firstOf, .static yX1_firstOf, .initialized RX1, .code yX1_firstOf cX1_firstOf 5 (some .int), .fieldLink RX1 9 "RecordsOffice$Days" "BEFORE_MONTH" "[I"])
def wsX1_plus : List Cond := .code yX1_plus cX1_plus 5 (some .int) :: ([.methodLink RX1 20 Lib.Math.min.name, .static Lib.Math.min.name, .initialized "java/lang/Math", .code Lib.Math.min.name Lib.Math.min.code 2 (some .int), .methodLink RX1 17 yX1_monthOf, .static yX1_monthOf, .initialized RX1, .code yX1_monthOf cX1_monthOf 2 (some .int), .methodLink RX1 13 yX1_firstOf, .static yX1_firstOf, .code yX1_firstOf cX1_firstOf 5 (some .int), .fieldLink RX1 9 "RecordsOffice$Days" "BEFORE_MONTH" "[I"])
def wsX1_fiscalEnd : List Cond := .code yX1_fiscalEnd cX1_fiscalEnd 4 (some .int) :: ([.methodLink RX1 17 yX1_monthOf, .static yX1_monthOf, .initialized RX1, .code yX1_monthOf cX1_monthOf 2 (some .int), .methodLink RX1 13 yX1_firstOf, .static yX1_firstOf, .code yX1_firstOf cX1_firstOf 5 (some .int), .fieldLink RX1 9 "RecordsOffice$Days" "BEFORE_MONTH" "[I"])
def wsX2_init : List Cond := .code yX2_init cX2_init 4 none :: ([.methodLink RX2 3 objectInit, .instanceMethod objectInit, .code objectInit ⟨#[0xb1]⟩ 1 none, .fieldLink RX2 9 "RecordsOffice$DueList" "isOpen" "Z", .fieldLink RX2 15 "RecordsOffice$DueList" "drawnBy" "I", .fieldLink RX2 19 "RecordsOffice$DueList" "members" "J"] ++ wsX20)
def wsJ13_bitCount_95d88 : List Cond := .code yJ13_bitCount_95d88 cJ13_bitCount_95d88 2 (some .int) :: ([.constantLong RJ13 314 (6148914691236517205), .constantLong RJ13 316 (3689348814741910323), .constantLong RJ13 318 (1085102592571150095)])
def wsX2_size : List Cond := .code yX2_size cX2_size 1 (some .int) :: ([.fieldLink RX2 19 "RecordsOffice$DueList" "members" "J", .methodLink RX2 23 yJ13_bitCount_95d88, .static yJ13_bitCount_95d88, .initialized RJ13, .code yJ13_bitCount_95d88 cJ13_bitCount_95d88 2 (some .int), .constantLong RJ13 314 (6148914691236517205), .constantLong RJ13 316 (3689348814741910323), .constantLong RJ13 318 (1085102592571150095)] ++ wsX20)
def wsX2_has : List Cond := .code yX2_has cX2_has 2 (some .boolean) :: ([.fieldLink RX2 19 "RecordsOffice$DueList" "members" "J"] ++ wsX20)
def wsX2_remove : List Cond := .code yX2_remove cX2_remove 2 none :: ([.fieldLink RX2 19 "RecordsOffice$DueList" "members" "J", .constantLong RX2 29 (-1)] ++ wsX20)
def wsX2_recordAtPlace : List Cond := .code yX2_recordAtPlace cX2_recordAtPlace 4 (some .int) :: ([.methodLink RX2 31 yX2_has, .instanceMethod yX2_has, .selects RX2 yX2_has yX2_has, .initialized RX2, .code yX2_has cX2_has 2 (some .boolean), .fieldLink RX2 19 "RecordsOffice$DueList" "members" "J"] ++ wsX20)
def wsX2_isApprovedBy : List Cond := .code yX2_isApprovedBy cX2_isApprovedBy 2 (some .boolean) :: ([.fieldLink RX2 35 "RecordsOffice$DueList" "approvers" "I"] ++ wsX20)
def wsX2_addApproval : List Cond := .code yX2_addApproval cX2_addApproval 2 none :: ([.fieldLink RX2 35 "RecordsOffice$DueList" "approvers" "I"] ++ wsX20)
def wsJ6_bitCount_0f7a4 : List Cond := .code yJ6_bitCount_0f7a4 cJ6_bitCount_0f7a4 1 (some .int) :: ([.constant RJ6 265 (1431655765), .constant RJ6 266 (858993459), .constant RJ6 267 (252645135)])
def wsX2_approvals : List Cond := .code yX2_approvals cX2_approvals 1 (some .int) :: ([.fieldLink RX2 35 "RecordsOffice$DueList" "approvers" "I", .methodLink RX2 38 yJ6_bitCount_0f7a4, .static yJ6_bitCount_0f7a4, .initialized RJ6, .code yJ6_bitCount_0f7a4 cJ6_bitCount_0f7a4 1 (some .int), .constant RJ6 265 (1431655765), .constant RJ6 266 (858993459), .constant RJ6 267 (252645135)] ++ wsX20)
def wsX3_init : List Cond := .code yX3_init cX3_init 9 none :: ([.methodLink RX3 3 objectInit, .instanceMethod objectInit, .code objectInit ⟨#[0xb1]⟩ 1 none, .fieldLink RX3 9 "RecordsOffice$Filed" "folder" "LRecordsOffice$Folder;", .fieldLink RX3 15 "RecordsOffice$Filed" "size" "I", .fieldLink RX3 19 "RecordsOffice$Filed" "digest" "J", .fieldLink RX3 23 "RecordsOffice$Filed" "a" "I", .fieldLink RX3 26 "RecordsOffice$Filed" "b" "I", .fieldLink RX3 29 "RecordsOffice$Filed" "c" "I", .fieldLink RX3 32 "RecordsOffice$Filed" "day" "I"] ++ wsX30)
def wsX3_hasKey : List Cond := .code yX3_hasKey cX3_hasKey 2 (some .boolean) :: ([.fieldLink RX3 23 "RecordsOffice$Filed" "a" "I", .fieldLink RX3 26 "RecordsOffice$Filed" "b" "I", .fieldLink RX3 29 "RecordsOffice$Filed" "c" "I"] ++ wsX30)
def wsX3_keyCount : List Cond := .code yX3_keyCount cX3_keyCount 2 (some .int) :: ([.fieldLink RX3 23 "RecordsOffice$Filed" "a" "I", .fieldLink RX3 26 "RecordsOffice$Filed" "b" "I", .fieldLink RX3 29 "RecordsOffice$Filed" "c" "I"] ++ wsX30)
def wsX3_isFiledFrom : List Cond := .code yX3_isFiledFrom cX3_isFiledFrom 3 (some .boolean) :: ([.fieldLink RX3 32 "RecordsOffice$Filed" "day" "I"] ++ wsX30)
def wsX4_init : List Cond := .code yX4_init cX4_init 3 none :: ([.methodLink RX4 3 objectInit, .instanceMethod objectInit, .code objectInit ⟨#[0xb1]⟩ 1 none, .fieldLink RX4 9 "RecordsOffice$Folder" "closedDay" "I", .fieldLink RX4 15 "RecordsOffice$Folder" "leftDay" "I", .fieldLink RX4 18 "RecordsOffice$Folder" "number" "I", .fieldLink RX4 21 "RecordsOffice$Folder" "cls" "I"] ++ wsX40)
def wsX5_init : List Cond := .code yX5_init cX5_init 1 none :: ([.methodLink RX5 3 objectInit, .instanceMethod objectInit, .code objectInit ⟨#[0xb1]⟩ 1 none])
def wsX5_place : List Cond := .code yX5_place cX5_place 6 none :: ([.fieldLink RX5 9 "RecordsOffice$Hold" "placed" "Z", .fieldLink RX5 15 "RecordsOffice$Hold" "folder" "I", .fieldLink RX5 19 "RecordsOffice$Hold" "cls" "I", .fieldLink RX5 22 "RecordsOffice$Hold" "key" "I", .fieldLink RX5 25 "RecordsOffice$Hold" "first" "I", .fieldLink RX5 28 "RecordsOffice$Hold" "last" "I"] ++ wsX50)
def wsX5_covers : List Cond := .code yX5_covers cX5_covers 2 (some .boolean) :: ([.fieldLink RX5 9 "RecordsOffice$Hold" "placed" "Z", .fieldLink RX5 15 "RecordsOffice$Hold" "folder" "I", .fieldLink RX5 31 "RecordsOffice$Filed" "folder" "LRecordsOffice$Folder;", .fieldLink RX5 36 "RecordsOffice$Folder" "number" "I", .fieldLink RX5 19 "RecordsOffice$Hold" "cls" "I", .fieldLink RX5 41 "RecordsOffice$Folder" "cls" "I", .fieldLink RX5 22 "RecordsOffice$Hold" "key" "I", .fieldLink RX5 25 "RecordsOffice$Hold" "first" "I", .fieldLink RX5 28 "RecordsOffice$Hold" "last" "I", .methodLink RX5 42 yX3_hasKey, .instanceMethod yX3_hasKey, .selects RX3 yX3_hasKey yX3_hasKey, .initialized RX3, .code yX3_hasKey cX3_hasKey 2 (some .boolean), .fieldLink RX3 23 "RecordsOffice$Filed" "a" "I", .fieldLink RX3 26 "RecordsOffice$Filed" "b" "I", .fieldLink RX3 29 "RecordsOffice$Filed" "c" "I", .methodLink RX5 46 yX3_isFiledFrom, .instanceMethod yX3_isFiledFrom, .selects RX3 yX3_isFiledFrom yX3_isFiledFrom, .code yX3_isFiledFrom cX3_isFiledFrom 3 (some .boolean), .fieldLink RX3 32 "RecordsOffice$Filed" "day" "I"] ++ wsX50 ++ wsX30 ++ wsX40)
def wsX6_init : List Cond := .code yX6_init cX6_init 1 none :: ([.methodLink RX6 3 objectInit, .instanceMethod objectInit, .code objectInit ⟨#[0xb1]⟩ 1 none, .arrayClass .int, .fieldLink RX6 9 "RecordsOffice$Schedule" "firstDays" "[I", .fieldLink RX6 15 "RecordsOffice$Schedule" "terms" "[I", .arrayClass .boolean, .fieldLink RX6 18 "RecordsOffice$Schedule" "forAll" "[Z"] ++ wsX60)
def wsX6_goesOnWith : List Cond := .code yX6_goesOnWith cX6_goesOnWith 3 (some .boolean) :: ([.fieldLink RX6 22 "RecordsOffice$Schedule" "size" "I", .fieldLink RX6 26 "RecordsOffice$Schedule" "event" "I", .fieldLink RX6 9 "RecordsOffice$Schedule" "firstDays" "[I"] ++ wsX60)
def wsX6_add : List Cond := .code yX6_add cX6_add 5 none :: ([.fieldLink RX6 26 "RecordsOffice$Schedule" "event" "I", .fieldLink RX6 9 "RecordsOffice$Schedule" "firstDays" "[I", .fieldLink RX6 22 "RecordsOffice$Schedule" "size" "I", .fieldLink RX6 15 "RecordsOffice$Schedule" "terms" "[I", .fieldLink RX6 18 "RecordsOffice$Schedule" "forAll" "[Z"] ++ wsX60)
def wsX6_termFor : List Cond := .code yX6_termFor cX6_termFor 4 (some .int) :: ([.fieldLink RX6 22 "RecordsOffice$Schedule" "size" "I", .fieldLink RX6 9 "RecordsOffice$Schedule" "firstDays" "[I", .fieldLink RX6 18 "RecordsOffice$Schedule" "forAll" "[Z", .fieldLink RX6 15 "RecordsOffice$Schedule" "terms" "[I"] ++ wsX60)
def wsX7_init_r1 : List Cond := [Cond.methodLink RX7 1 objectInit, Cond.instanceMethod objectInit, Cond.code objectInit ⟨#[0xb1]⟩ 1 none, Cond.arrayClass .int, Cond.fieldLink RX7 9 "RecordsOffice" "rights" "[I", Cond.classLink RX7 13 RX6, Cond.fieldLink RX7 15 "RecordsOffice" "schedules" "[LRecordsOffice$Schedule;", Cond.classLink RX7 19 RX4, Cond.fieldLink RX7 21 "RecordsOffice" "folders" "[LRecordsOffice$Folder;", Cond.classLink RX7 25 RX5, Cond.fieldLink RX7 27 "RecordsOffice" "holds" "[LRecordsOffice$Hold;", Cond.classLink RX7 31 RX3, Cond.fieldLink RX7 33 "RecordsOffice" "records" "[LRecordsOffice$Filed;", Cond.classLink RX7 37 RX2, Cond.fieldLink RX7 39 "RecordsOffice" "lists" "[LRecordsOffice$DueList;", Cond.classLink RX7 43 RX0, Cond.instantiable RX0 3, Cond.initialized RX0, Cond.fieldLink RX7 46 "RecordsOffice" "book" "LRecordsOffice$Book;", Cond.fieldLink RX7 50 "RecordsOffice" "fiscalMonth" "I", Cond.instantiable RX6 5, Cond.initialized RX6, Cond.instantiable RX5 6, Cond.initialized RX5]
def wsX7_init_r2 : List Cond := [Cond.instanceMethod yX0_init, Cond.code yX0_init cX0_init 1 none, Cond.methodLink RX0 3 objectInit, Cond.fieldLink RX0 11 "RecordsOffice$Book" "numbers" "[I", Cond.arrayClass .long, Cond.fieldLink RX0 15 "RecordsOffice$Book" "links" "[J", Cond.instanceMethod yX6_init, Cond.code yX6_init cX6_init 1 none, Cond.methodLink RX6 3 objectInit, Cond.fieldLink RX6 9 "RecordsOffice$Schedule" "firstDays" "[I", Cond.fieldLink RX6 15 "RecordsOffice$Schedule" "terms" "[I", Cond.arrayClass .boolean, Cond.fieldLink RX6 18 "RecordsOffice$Schedule" "forAll" "[Z", Cond.instanceMethod yX5_init, Cond.code yX5_init cX5_init 1 none, Cond.methodLink RX5 3 objectInit]
def wsX7_init : List Cond := .code yX7_init cX7_init 2 none :: ((wsX7_init_r1 ++ wsX7_init_r2) ++ wsX70 ++ wsX00 ++ wsX60 ++ wsX50)
def wsX7_version_r1 : List Cond := [Cond.classLink RX7 60 "java/lang/IllegalArgumentException", Cond.initialized "java/lang/IllegalArgumentException", Cond.classLink RX7 89 "java/lang/IllegalStateException", Cond.initialized "java/lang/IllegalStateException", Cond.fieldLink RX7 15 "RecordsOffice" "schedules" "[LRecordsOffice$Schedule;", Cond.fieldLink RX7 86 "RecordsOffice$Schedule" "size" "I", Cond.fieldLink RX7 46 "RecordsOffice" "book" "LRecordsOffice$Book;", Cond.methodLink RX7 67 yX7_needClass, Cond.static yX7_needClass, Cond.initialized RX7, Cond.code yX7_needClass cX7_needClass 1 none, Cond.classLink RX7 109 "java/lang/IndexOutOfBoundsException", Cond.initialized "java/lang/IndexOutOfBoundsException", Cond.methodLink RX7 70 yX7_needTerm, Cond.static yX7_needTerm, Cond.code yX7_needTerm cX7_needTerm 2 none, Cond.methodLink RX7 74 yX7_needDay, Cond.static yX7_needDay, Cond.code yX7_needDay cX7_needDay 1 none, Cond.constant RX7 334 (120000), Cond.methodLink RX7 77 yX6_goesOnWith, Cond.instanceMethod yX6_goesOnWith, Cond.selects RX6 yX6_goesOnWith yX6_goesOnWith, Cond.initialized RX6]
def wsX7_version_r2 : List Cond := [Cond.code yX6_goesOnWith cX6_goesOnWith 3 (some .boolean), Cond.fieldLink RX6 22 "RecordsOffice$Schedule" "size" "I", Cond.fieldLink RX6 26 "RecordsOffice$Schedule" "event" "I", Cond.fieldLink RX6 9 "RecordsOffice$Schedule" "firstDays" "[I", Cond.methodLink RX7 83 yX7_needRoom, Cond.instanceMethod yX7_needRoom, Cond.selects RX7 yX7_needRoom yX7_needRoom, Cond.code yX7_needRoom cX7_needRoom 2 none, Cond.fieldLink RX7 285 "RecordsOffice$Book" "size" "I", Cond.methodLink RX7 94 yX6_add, Cond.instanceMethod yX6_add, Cond.selects RX6 yX6_add yX6_add, Cond.code yX6_add cX6_add 5 none, Cond.fieldLink RX6 15 "RecordsOffice$Schedule" "terms" "[I", Cond.fieldLink RX6 18 "RecordsOffice$Schedule" "forAll" "[Z", Cond.methodLink RX7 98 yX0_write, Cond.instanceMethod yX0_write, Cond.selects RX0 yX0_write yX0_write, Cond.initialized RX0, Cond.code yX0_write cX0_write 8 none, Cond.fieldLink RX0 19 "RecordsOffice$Book" "size" "I", Cond.fieldLink RX0 15 "RecordsOffice$Book" "links" "[J", Cond.methodLink RX0 23 yX0_setNumber, Cond.instanceMethod yX0_setNumber]
def wsX7_version_r3 : List Cond := [Cond.selects RX0 yX0_setNumber yX0_setNumber, Cond.code yX0_setNumber cX0_setNumber 4 none, Cond.fieldLink RX0 11 "RecordsOffice$Book" "numbers" "[I", Cond.methodLink RX0 27 yX0_linkFor, Cond.instanceMethod yX0_linkFor, Cond.selects RX0 yX0_linkFor yX0_linkFor, Cond.code yX0_linkFor cX0_linkFor 7 (some .long), Cond.methodLink RX0 31 yX0_number, Cond.instanceMethod yX0_number, Cond.selects RX0 yX0_number yX0_number, Cond.code yX0_number cX0_number 3 (some .int), Cond.methodLink RX0 35 yX0_mix, Cond.static yX0_mix, Cond.code yX0_mix cX0_mix 6 (some .long), Cond.constantLong RX0 39 (7046029254386353131)]
def wsX7_open_r1 : List Cond := [Cond.classLink RX7 109 "java/lang/IndexOutOfBoundsException", Cond.initialized "java/lang/IndexOutOfBoundsException", Cond.classLink RX7 89 "java/lang/IllegalStateException", Cond.initialized "java/lang/IllegalStateException", Cond.fieldLink RX7 21 "RecordsOffice" "folders" "[LRecordsOffice$Folder;", Cond.fieldLink RX7 15 "RecordsOffice" "schedules" "[LRecordsOffice$Schedule;", Cond.fieldLink RX7 86 "RecordsOffice$Schedule" "size" "I", Cond.classLink RX7 19 RX4, Cond.instantiable RX4 4, Cond.initialized RX4, Cond.fieldLink RX7 46 "RecordsOffice" "book" "LRecordsOffice$Book;", Cond.methodLink RX7 67 yX7_needClass, Cond.static yX7_needClass, Cond.initialized RX7, Cond.code yX7_needClass cX7_needClass 1 none, Cond.methodLink RX7 83 yX7_needRoom, Cond.instanceMethod yX7_needRoom, Cond.selects RX7 yX7_needRoom yX7_needRoom, Cond.code yX7_needRoom cX7_needRoom 2 none, Cond.fieldLink RX7 285 "RecordsOffice$Book" "size" "I", Cond.methodLink RX7 116 yX4_init, Cond.instanceMethod yX4_init, Cond.code yX4_init cX4_init 3 none, Cond.methodLink RX4 3 objectInit]
def wsX7_open_r2 : List Cond := [Cond.instanceMethod objectInit, Cond.code objectInit ⟨#[0xb1]⟩ 1 none, Cond.fieldLink RX4 9 "RecordsOffice$Folder" "closedDay" "I", Cond.fieldLink RX4 15 "RecordsOffice$Folder" "leftDay" "I", Cond.fieldLink RX4 18 "RecordsOffice$Folder" "number" "I", Cond.fieldLink RX4 21 "RecordsOffice$Folder" "cls" "I", Cond.methodLink RX7 98 yX0_write, Cond.instanceMethod yX0_write, Cond.selects RX0 yX0_write yX0_write, Cond.initialized RX0, Cond.code yX0_write cX0_write 8 none, Cond.fieldLink RX0 19 "RecordsOffice$Book" "size" "I", Cond.fieldLink RX0 15 "RecordsOffice$Book" "links" "[J", Cond.methodLink RX0 23 yX0_setNumber, Cond.instanceMethod yX0_setNumber, Cond.selects RX0 yX0_setNumber yX0_setNumber, Cond.code yX0_setNumber cX0_setNumber 4 none, Cond.fieldLink RX0 11 "RecordsOffice$Book" "numbers" "[I", Cond.methodLink RX0 27 yX0_linkFor, Cond.instanceMethod yX0_linkFor, Cond.selects RX0 yX0_linkFor yX0_linkFor, Cond.code yX0_linkFor cX0_linkFor 7 (some .long), Cond.methodLink RX0 31 yX0_number, Cond.instanceMethod yX0_number]
def wsX7_open_r3 : List Cond := [Cond.selects RX0 yX0_number yX0_number, Cond.code yX0_number cX0_number 3 (some .int), Cond.methodLink RX0 35 yX0_mix, Cond.static yX0_mix, Cond.code yX0_mix cX0_mix 6 (some .long), Cond.constantLong RX0 39 (7046029254386353131)]
def wsX7_close_r1 : List Cond := [Cond.classLink RX7 89 "java/lang/IllegalStateException", Cond.initialized "java/lang/IllegalStateException", Cond.fieldLink RX7 125 "RecordsOffice$Folder" "closedDay" "I", Cond.fieldLink RX7 130 "RecordsOffice" "today" "I", Cond.fieldLink RX7 46 "RecordsOffice" "book" "LRecordsOffice$Book;", Cond.methodLink RX7 118 yX7_folderAt, Cond.instanceMethod yX7_folderAt, Cond.selects RX7 yX7_folderAt yX7_folderAt, Cond.initialized RX7, Cond.code yX7_folderAt cX7_folderAt 2 (some (.object "RecordsOffice$Folder")), Cond.classLink RX7 109 "java/lang/IndexOutOfBoundsException", Cond.initialized "java/lang/IndexOutOfBoundsException", Cond.fieldLink RX7 21 "RecordsOffice" "folders" "[LRecordsOffice$Folder;", Cond.methodLink RX7 122 yX7_needDayOfAct, Cond.instanceMethod yX7_needDayOfAct, Cond.selects RX7 yX7_needDayOfAct yX7_needDayOfAct, Cond.code yX7_needDayOfAct cX7_needDayOfAct 2 none, Cond.classLink RX7 60 "java/lang/IllegalArgumentException", Cond.initialized "java/lang/IllegalArgumentException", Cond.methodLink RX7 74 yX7_needDay, Cond.static yX7_needDay, Cond.code yX7_needDay cX7_needDay 1 none, Cond.constant RX7 334 (120000), Cond.methodLink RX7 83 yX7_needRoom]
def wsX7_close_r2 : List Cond := [Cond.instanceMethod yX7_needRoom, Cond.selects RX7 yX7_needRoom yX7_needRoom, Cond.code yX7_needRoom cX7_needRoom 2 none, Cond.fieldLink RX7 285 "RecordsOffice$Book" "size" "I", Cond.methodLink RX7 98 yX0_write, Cond.instanceMethod yX0_write, Cond.selects RX0 yX0_write yX0_write, Cond.initialized RX0, Cond.code yX0_write cX0_write 8 none, Cond.fieldLink RX0 19 "RecordsOffice$Book" "size" "I", Cond.fieldLink RX0 15 "RecordsOffice$Book" "links" "[J", Cond.methodLink RX0 23 yX0_setNumber, Cond.instanceMethod yX0_setNumber, Cond.selects RX0 yX0_setNumber yX0_setNumber, Cond.code yX0_setNumber cX0_setNumber 4 none, Cond.fieldLink RX0 11 "RecordsOffice$Book" "numbers" "[I", Cond.methodLink RX0 27 yX0_linkFor, Cond.instanceMethod yX0_linkFor, Cond.selects RX0 yX0_linkFor yX0_linkFor, Cond.code yX0_linkFor cX0_linkFor 7 (some .long), Cond.methodLink RX0 31 yX0_number, Cond.instanceMethod yX0_number, Cond.selects RX0 yX0_number yX0_number, Cond.code yX0_number cX0_number 3 (some .int)]
def wsX7_close_r3 : List Cond := [Cond.methodLink RX0 35 yX0_mix, Cond.static yX0_mix, Cond.code yX0_mix cX0_mix 6 (some .long), Cond.constantLong RX0 39 (7046029254386353131)]
def wsX7_left_r1 : List Cond := [Cond.classLink RX7 89 "java/lang/IllegalStateException", Cond.initialized "java/lang/IllegalStateException", Cond.fieldLink RX7 133 "RecordsOffice$Folder" "leftDay" "I", Cond.fieldLink RX7 130 "RecordsOffice" "today" "I", Cond.fieldLink RX7 46 "RecordsOffice" "book" "LRecordsOffice$Book;", Cond.methodLink RX7 118 yX7_folderAt, Cond.instanceMethod yX7_folderAt, Cond.selects RX7 yX7_folderAt yX7_folderAt, Cond.initialized RX7, Cond.code yX7_folderAt cX7_folderAt 2 (some (.object "RecordsOffice$Folder")), Cond.classLink RX7 109 "java/lang/IndexOutOfBoundsException", Cond.initialized "java/lang/IndexOutOfBoundsException", Cond.fieldLink RX7 21 "RecordsOffice" "folders" "[LRecordsOffice$Folder;", Cond.methodLink RX7 122 yX7_needDayOfAct, Cond.instanceMethod yX7_needDayOfAct, Cond.selects RX7 yX7_needDayOfAct yX7_needDayOfAct, Cond.code yX7_needDayOfAct cX7_needDayOfAct 2 none, Cond.classLink RX7 60 "java/lang/IllegalArgumentException", Cond.initialized "java/lang/IllegalArgumentException", Cond.methodLink RX7 74 yX7_needDay, Cond.static yX7_needDay, Cond.code yX7_needDay cX7_needDay 1 none, Cond.constant RX7 334 (120000), Cond.methodLink RX7 83 yX7_needRoom]
def wsX7_left_r2 : List Cond := [Cond.instanceMethod yX7_needRoom, Cond.selects RX7 yX7_needRoom yX7_needRoom, Cond.code yX7_needRoom cX7_needRoom 2 none, Cond.fieldLink RX7 285 "RecordsOffice$Book" "size" "I", Cond.methodLink RX7 98 yX0_write, Cond.instanceMethod yX0_write, Cond.selects RX0 yX0_write yX0_write, Cond.initialized RX0, Cond.code yX0_write cX0_write 8 none, Cond.fieldLink RX0 19 "RecordsOffice$Book" "size" "I", Cond.fieldLink RX0 15 "RecordsOffice$Book" "links" "[J", Cond.methodLink RX0 23 yX0_setNumber, Cond.instanceMethod yX0_setNumber, Cond.selects RX0 yX0_setNumber yX0_setNumber, Cond.code yX0_setNumber cX0_setNumber 4 none, Cond.fieldLink RX0 11 "RecordsOffice$Book" "numbers" "[I", Cond.methodLink RX0 27 yX0_linkFor, Cond.instanceMethod yX0_linkFor, Cond.selects RX0 yX0_linkFor yX0_linkFor, Cond.code yX0_linkFor cX0_linkFor 7 (some .long), Cond.methodLink RX0 31 yX0_number, Cond.instanceMethod yX0_number, Cond.selects RX0 yX0_number yX0_number, Cond.code yX0_number cX0_number 3 (some .int)]
def wsX7_left_r3 : List Cond := [Cond.methodLink RX0 35 yX0_mix, Cond.static yX0_mix, Cond.code yX0_mix cX0_mix 6 (some .long), Cond.constantLong RX0 39 (7046029254386353131)]
def wsX7_file_r1 : List Cond := [Cond.classLink RX7 60 "java/lang/IllegalArgumentException", Cond.initialized "java/lang/IllegalArgumentException", Cond.classLink RX7 89 "java/lang/IllegalStateException", Cond.initialized "java/lang/IllegalStateException", Cond.constant RX7 141 (65536), Cond.fieldLink RX7 125 "RecordsOffice$Folder" "closedDay" "I", Cond.fieldLink RX7 104 "RecordsOffice" "recordCount" "I", Cond.fieldLink RX7 33 "RecordsOffice" "records" "[LRecordsOffice$Filed;", Cond.classLink RX7 31 RX3, Cond.instantiable RX3 8, Cond.initialized RX3, Cond.fieldLink RX7 130 "RecordsOffice" "today" "I", Cond.fieldLink RX7 46 "RecordsOffice" "book" "LRecordsOffice$Book;", Cond.methodLink RX7 118 yX7_folderAt, Cond.instanceMethod yX7_folderAt, Cond.selects RX7 yX7_folderAt yX7_folderAt, Cond.initialized RX7, Cond.code yX7_folderAt cX7_folderAt 2 (some (.object "RecordsOffice$Folder")), Cond.classLink RX7 109 "java/lang/IndexOutOfBoundsException", Cond.initialized "java/lang/IndexOutOfBoundsException", Cond.fieldLink RX7 21 "RecordsOffice" "folders" "[LRecordsOffice$Folder;", Cond.methodLink RX7 138 yX7_needKeyOrNone, Cond.static yX7_needKeyOrNone, Cond.code yX7_needKeyOrNone cX7_needKeyOrNone 1 none]
def wsX7_file_r2 : List Cond := [Cond.methodLink RX7 122 yX7_needDayOfAct, Cond.instanceMethod yX7_needDayOfAct, Cond.selects RX7 yX7_needDayOfAct yX7_needDayOfAct, Cond.code yX7_needDayOfAct cX7_needDayOfAct 2 none, Cond.methodLink RX7 74 yX7_needDay, Cond.static yX7_needDay, Cond.code yX7_needDay cX7_needDay 1 none, Cond.constant RX7 334 (120000), Cond.methodLink RX7 83 yX7_needRoom, Cond.instanceMethod yX7_needRoom, Cond.selects RX7 yX7_needRoom yX7_needRoom, Cond.code yX7_needRoom cX7_needRoom 2 none, Cond.fieldLink RX7 285 "RecordsOffice$Book" "size" "I", Cond.methodLink RX7 146 yX3_init, Cond.instanceMethod yX3_init, Cond.code yX3_init cX3_init 9 none, Cond.methodLink RX3 3 objectInit, Cond.instanceMethod objectInit, Cond.code objectInit ⟨#[0xb1]⟩ 1 none, Cond.fieldLink RX3 9 "RecordsOffice$Filed" "folder" "LRecordsOffice$Folder;", Cond.fieldLink RX3 15 "RecordsOffice$Filed" "size" "I", Cond.fieldLink RX3 19 "RecordsOffice$Filed" "digest" "J", Cond.fieldLink RX3 23 "RecordsOffice$Filed" "a" "I", Cond.fieldLink RX3 26 "RecordsOffice$Filed" "b" "I"]
def wsX7_file_r3 : List Cond := [Cond.fieldLink RX3 29 "RecordsOffice$Filed" "c" "I", Cond.fieldLink RX3 32 "RecordsOffice$Filed" "day" "I", Cond.methodLink RX7 98 yX0_write, Cond.instanceMethod yX0_write, Cond.selects RX0 yX0_write yX0_write, Cond.initialized RX0, Cond.code yX0_write cX0_write 8 none, Cond.fieldLink RX0 19 "RecordsOffice$Book" "size" "I", Cond.fieldLink RX0 15 "RecordsOffice$Book" "links" "[J", Cond.methodLink RX0 23 yX0_setNumber, Cond.instanceMethod yX0_setNumber, Cond.selects RX0 yX0_setNumber yX0_setNumber, Cond.code yX0_setNumber cX0_setNumber 4 none, Cond.fieldLink RX0 11 "RecordsOffice$Book" "numbers" "[I", Cond.methodLink RX0 27 yX0_linkFor, Cond.instanceMethod yX0_linkFor, Cond.selects RX0 yX0_linkFor yX0_linkFor, Cond.code yX0_linkFor cX0_linkFor 7 (some .long), Cond.methodLink RX0 31 yX0_number, Cond.instanceMethod yX0_number, Cond.selects RX0 yX0_number yX0_number, Cond.code yX0_number cX0_number 3 (some .int), Cond.methodLink RX0 35 yX0_mix, Cond.static yX0_mix]
def wsX7_file_r4 : List Cond := [Cond.code yX0_mix cX0_mix 6 (some .long), Cond.constantLong RX0 39 (7046029254386353131)]
def wsX7_hold_r1 : List Cond := [Cond.classLink RX7 109 "java/lang/IndexOutOfBoundsException", Cond.initialized "java/lang/IndexOutOfBoundsException", Cond.classLink RX7 60 "java/lang/IllegalArgumentException", Cond.initialized "java/lang/IllegalArgumentException", Cond.classLink RX7 89 "java/lang/IllegalStateException", Cond.initialized "java/lang/IllegalStateException", Cond.fieldLink RX7 27 "RecordsOffice" "holds" "[LRecordsOffice$Hold;", Cond.fieldLink RX7 154 "RecordsOffice$Hold" "placed" "Z", Cond.fieldLink RX7 46 "RecordsOffice" "book" "LRecordsOffice$Book;", Cond.methodLink RX7 149 yX7_needHold, Cond.static yX7_needHold, Cond.initialized RX7, Cond.code yX7_needHold cX7_needHold 1 none, Cond.methodLink RX7 67 yX7_needClass, Cond.static yX7_needClass, Cond.code yX7_needClass cX7_needClass 1 none, Cond.methodLink RX7 138 yX7_needKeyOrNone, Cond.static yX7_needKeyOrNone, Cond.code yX7_needKeyOrNone cX7_needKeyOrNone 1 none, Cond.methodLink RX7 74 yX7_needDay, Cond.static yX7_needDay, Cond.code yX7_needDay cX7_needDay 1 none, Cond.constant RX7 334 (120000), Cond.methodLink RX7 83 yX7_needRoom]
def wsX7_hold_r2 : List Cond := [Cond.instanceMethod yX7_needRoom, Cond.selects RX7 yX7_needRoom yX7_needRoom, Cond.code yX7_needRoom cX7_needRoom 2 none, Cond.fieldLink RX7 285 "RecordsOffice$Book" "size" "I", Cond.methodLink RX7 160 yX5_place, Cond.instanceMethod yX5_place, Cond.selects RX5 yX5_place yX5_place, Cond.initialized RX5, Cond.code yX5_place cX5_place 6 none, Cond.fieldLink RX5 9 "RecordsOffice$Hold" "placed" "Z", Cond.fieldLink RX5 15 "RecordsOffice$Hold" "folder" "I", Cond.fieldLink RX5 19 "RecordsOffice$Hold" "cls" "I", Cond.fieldLink RX5 22 "RecordsOffice$Hold" "key" "I", Cond.fieldLink RX5 25 "RecordsOffice$Hold" "first" "I", Cond.fieldLink RX5 28 "RecordsOffice$Hold" "last" "I", Cond.methodLink RX7 98 yX0_write, Cond.instanceMethod yX0_write, Cond.selects RX0 yX0_write yX0_write, Cond.initialized RX0, Cond.code yX0_write cX0_write 8 none, Cond.fieldLink RX0 19 "RecordsOffice$Book" "size" "I", Cond.fieldLink RX0 15 "RecordsOffice$Book" "links" "[J", Cond.methodLink RX0 23 yX0_setNumber, Cond.instanceMethod yX0_setNumber]
def wsX7_hold_r3 : List Cond := [Cond.selects RX0 yX0_setNumber yX0_setNumber, Cond.code yX0_setNumber cX0_setNumber 4 none, Cond.fieldLink RX0 11 "RecordsOffice$Book" "numbers" "[I", Cond.methodLink RX0 27 yX0_linkFor, Cond.instanceMethod yX0_linkFor, Cond.selects RX0 yX0_linkFor yX0_linkFor, Cond.code yX0_linkFor cX0_linkFor 7 (some .long), Cond.methodLink RX0 31 yX0_number, Cond.instanceMethod yX0_number, Cond.selects RX0 yX0_number yX0_number, Cond.code yX0_number cX0_number 3 (some .int), Cond.methodLink RX0 35 yX0_mix, Cond.static yX0_mix, Cond.code yX0_mix cX0_mix 6 (some .long), Cond.constantLong RX0 39 (7046029254386353131)]
def wsX7_lift_r1 : List Cond := [Cond.classLink RX7 89 "java/lang/IllegalStateException", Cond.initialized "java/lang/IllegalStateException", Cond.fieldLink RX7 27 "RecordsOffice" "holds" "[LRecordsOffice$Hold;", Cond.fieldLink RX7 154 "RecordsOffice$Hold" "placed" "Z", Cond.fieldLink RX7 46 "RecordsOffice" "book" "LRecordsOffice$Book;", Cond.methodLink RX7 149 yX7_needHold, Cond.static yX7_needHold, Cond.initialized RX7, Cond.code yX7_needHold cX7_needHold 1 none, Cond.classLink RX7 109 "java/lang/IndexOutOfBoundsException", Cond.initialized "java/lang/IndexOutOfBoundsException", Cond.methodLink RX7 83 yX7_needRoom, Cond.instanceMethod yX7_needRoom, Cond.selects RX7 yX7_needRoom yX7_needRoom, Cond.code yX7_needRoom cX7_needRoom 2 none, Cond.fieldLink RX7 285 "RecordsOffice$Book" "size" "I", Cond.methodLink RX7 98 yX0_write, Cond.instanceMethod yX0_write, Cond.selects RX0 yX0_write yX0_write, Cond.initialized RX0, Cond.code yX0_write cX0_write 8 none, Cond.fieldLink RX0 19 "RecordsOffice$Book" "size" "I", Cond.fieldLink RX0 15 "RecordsOffice$Book" "links" "[J", Cond.methodLink RX0 23 yX0_setNumber]
def wsX7_lift_r2 : List Cond := [Cond.instanceMethod yX0_setNumber, Cond.selects RX0 yX0_setNumber yX0_setNumber, Cond.code yX0_setNumber cX0_setNumber 4 none, Cond.fieldLink RX0 11 "RecordsOffice$Book" "numbers" "[I", Cond.methodLink RX0 27 yX0_linkFor, Cond.instanceMethod yX0_linkFor, Cond.selects RX0 yX0_linkFor yX0_linkFor, Cond.code yX0_linkFor cX0_linkFor 7 (some .long), Cond.methodLink RX0 31 yX0_number, Cond.instanceMethod yX0_number, Cond.selects RX0 yX0_number yX0_number, Cond.code yX0_number cX0_number 3 (some .int), Cond.methodLink RX0 35 yX0_mix, Cond.static yX0_mix, Cond.code yX0_mix cX0_mix 6 (some .long), Cond.constantLong RX0 39 (7046029254386353131)]
def wsX7_holdsOver_r1 : List Cond := [Cond.fieldLink RX7 27 "RecordsOffice" "holds" "[LRecordsOffice$Hold;", Cond.methodLink RX7 349 yX5_covers, Cond.instanceMethod yX5_covers, Cond.selects RX5 yX5_covers yX5_covers, Cond.initialized RX5, Cond.code yX5_covers cX5_covers 2 (some .boolean), Cond.fieldLink RX5 9 "RecordsOffice$Hold" "placed" "Z", Cond.fieldLink RX5 15 "RecordsOffice$Hold" "folder" "I", Cond.fieldLink RX5 31 "RecordsOffice$Filed" "folder" "LRecordsOffice$Folder;", Cond.fieldLink RX5 36 "RecordsOffice$Folder" "number" "I", Cond.fieldLink RX5 19 "RecordsOffice$Hold" "cls" "I", Cond.fieldLink RX5 41 "RecordsOffice$Folder" "cls" "I", Cond.fieldLink RX5 22 "RecordsOffice$Hold" "key" "I", Cond.fieldLink RX5 25 "RecordsOffice$Hold" "first" "I", Cond.fieldLink RX5 28 "RecordsOffice$Hold" "last" "I", Cond.methodLink RX5 42 yX3_hasKey, Cond.instanceMethod yX3_hasKey, Cond.selects RX3 yX3_hasKey yX3_hasKey, Cond.initialized RX3, Cond.code yX3_hasKey cX3_hasKey 2 (some .boolean), Cond.fieldLink RX3 23 "RecordsOffice$Filed" "a" "I", Cond.fieldLink RX3 26 "RecordsOffice$Filed" "b" "I", Cond.fieldLink RX3 29 "RecordsOffice$Filed" "c" "I", Cond.methodLink RX5 46 yX3_isFiledFrom]
def wsX7_holdsOver_r2 : List Cond := [Cond.instanceMethod yX3_isFiledFrom, Cond.selects RX3 yX3_isFiledFrom yX3_isFiledFrom, Cond.code yX3_isFiledFrom cX3_isFiledFrom 3 (some .boolean), Cond.fieldLink RX3 32 "RecordsOffice$Filed" "day" "I"]
def wsX7_holdsOver : List Cond := .code yX7_holdsOver cX7_holdsOver 4 (some .int) :: ((wsX7_holdsOver_r1 ++ wsX7_holdsOver_r2) ++ wsX70 ++ wsX50 ++ wsX30 ++ wsX40)
def wsX7_covered_r1 : List Cond := [Cond.methodLink RX7 166 yX7_recordAt, Cond.instanceMethod yX7_recordAt, Cond.selects RX7 yX7_recordAt yX7_recordAt, Cond.initialized RX7, Cond.code yX7_recordAt cX7_recordAt 2 (some (.object "RecordsOffice$Filed")), Cond.classLink RX7 109 "java/lang/IndexOutOfBoundsException", Cond.initialized "java/lang/IndexOutOfBoundsException", Cond.fieldLink RX7 104 "RecordsOffice" "recordCount" "I", Cond.fieldLink RX7 33 "RecordsOffice" "records" "[LRecordsOffice$Filed;", Cond.methodLink RX7 170 yX7_holdsOver, Cond.instanceMethod yX7_holdsOver, Cond.selects RX7 yX7_holdsOver yX7_holdsOver, Cond.code yX7_holdsOver cX7_holdsOver 4 (some .int), Cond.fieldLink RX7 27 "RecordsOffice" "holds" "[LRecordsOffice$Hold;", Cond.methodLink RX7 349 yX5_covers, Cond.instanceMethod yX5_covers, Cond.selects RX5 yX5_covers yX5_covers, Cond.initialized RX5, Cond.code yX5_covers cX5_covers 2 (some .boolean), Cond.fieldLink RX5 9 "RecordsOffice$Hold" "placed" "Z", Cond.fieldLink RX5 15 "RecordsOffice$Hold" "folder" "I", Cond.fieldLink RX5 31 "RecordsOffice$Filed" "folder" "LRecordsOffice$Folder;", Cond.fieldLink RX5 36 "RecordsOffice$Folder" "number" "I", Cond.fieldLink RX5 19 "RecordsOffice$Hold" "cls" "I"]
def wsX7_covered_r2 : List Cond := [Cond.fieldLink RX5 41 "RecordsOffice$Folder" "cls" "I", Cond.fieldLink RX5 22 "RecordsOffice$Hold" "key" "I", Cond.fieldLink RX5 25 "RecordsOffice$Hold" "first" "I", Cond.fieldLink RX5 28 "RecordsOffice$Hold" "last" "I", Cond.methodLink RX5 42 yX3_hasKey, Cond.instanceMethod yX3_hasKey, Cond.selects RX3 yX3_hasKey yX3_hasKey, Cond.initialized RX3, Cond.code yX3_hasKey cX3_hasKey 2 (some .boolean), Cond.fieldLink RX3 23 "RecordsOffice$Filed" "a" "I", Cond.fieldLink RX3 26 "RecordsOffice$Filed" "b" "I", Cond.fieldLink RX3 29 "RecordsOffice$Filed" "c" "I", Cond.methodLink RX5 46 yX3_isFiledFrom, Cond.instanceMethod yX3_isFiledFrom, Cond.selects RX3 yX3_isFiledFrom yX3_isFiledFrom, Cond.code yX3_isFiledFrom cX3_isFiledFrom 3 (some .boolean), Cond.fieldLink RX3 32 "RecordsOffice$Filed" "day" "I"]
def wsX7_eventDay : List Cond := .code yX7_eventDay cX7_eventDay 2 (some .int) :: ([.fieldLink RX7 15 "RecordsOffice" "schedules" "[LRecordsOffice$Schedule;", .fieldLink RX7 177 "RecordsOffice$Filed" "folder" "LRecordsOffice$Folder;", .fieldLink RX7 353 "RecordsOffice$Folder" "cls" "I", .fieldLink RX7 356 "RecordsOffice$Schedule" "event" "I", .fieldLink RX7 125 "RecordsOffice$Folder" "closedDay" "I", .fieldLink RX7 133 "RecordsOffice$Folder" "leftDay" "I", .fieldLink RX7 184 "RecordsOffice$Filed" "day" "I", .fieldLink RX7 50 "RecordsOffice" "fiscalMonth" "I", .methodLink RX7 359 yX1_fiscalEnd, .static yX1_fiscalEnd, .initialized RX1, .code yX1_fiscalEnd cX1_fiscalEnd 4 (some .int), .methodLink RX1 17 yX1_monthOf, .static yX1_monthOf, .code yX1_monthOf cX1_monthOf 2 (some .int), .methodLink RX1 13 yX1_firstOf, .static yX1_firstOf, .code yX1_firstOf cX1_firstOf 5 (some .int), .fieldLink RX1 9 "RecordsOffice$Days" "BEFORE_MONTH" "[I"] ++ wsX70 ++ wsX30 ++ wsX40 ++ wsX60)
def wsX7_dueDay_r1 : List Cond := [Cond.fieldLink RX7 15 "RecordsOffice" "schedules" "[LRecordsOffice$Schedule;", Cond.fieldLink RX7 177 "RecordsOffice$Filed" "folder" "LRecordsOffice$Folder;", Cond.fieldLink RX7 353 "RecordsOffice$Folder" "cls" "I", Cond.methodLink RX7 362 yX7_eventDay, Cond.instanceMethod yX7_eventDay, Cond.selects RX7 yX7_eventDay yX7_eventDay, Cond.initialized RX7, Cond.code yX7_eventDay cX7_eventDay 2 (some .int), Cond.fieldLink RX7 356 "RecordsOffice$Schedule" "event" "I", Cond.fieldLink RX7 125 "RecordsOffice$Folder" "closedDay" "I", Cond.fieldLink RX7 133 "RecordsOffice$Folder" "leftDay" "I", Cond.fieldLink RX7 184 "RecordsOffice$Filed" "day" "I", Cond.fieldLink RX7 50 "RecordsOffice" "fiscalMonth" "I", Cond.methodLink RX7 359 yX1_fiscalEnd, Cond.static yX1_fiscalEnd, Cond.initialized RX1, Cond.code yX1_fiscalEnd cX1_fiscalEnd 4 (some .int), Cond.methodLink RX1 17 yX1_monthOf, Cond.static yX1_monthOf, Cond.code yX1_monthOf cX1_monthOf 2 (some .int), Cond.methodLink RX1 13 yX1_firstOf, Cond.static yX1_firstOf, Cond.code yX1_firstOf cX1_firstOf 5 (some .int), Cond.fieldLink RX1 9 "RecordsOffice$Days" "BEFORE_MONTH" "[I"]
def wsX7_dueDay_r2 : List Cond := [Cond.methodLink RX7 365 yX6_termFor, Cond.instanceMethod yX6_termFor, Cond.selects RX6 yX6_termFor yX6_termFor, Cond.initialized RX6, Cond.code yX6_termFor cX6_termFor 4 (some .int), Cond.fieldLink RX6 22 "RecordsOffice$Schedule" "size" "I", Cond.fieldLink RX6 9 "RecordsOffice$Schedule" "firstDays" "[I", Cond.fieldLink RX6 18 "RecordsOffice$Schedule" "forAll" "[Z", Cond.fieldLink RX6 15 "RecordsOffice$Schedule" "terms" "[I", Cond.methodLink RX7 315 yX1_plus, Cond.static yX1_plus, Cond.code yX1_plus cX1_plus 5 (some .int), Cond.methodLink RX1 20 Lib.Math.min.name, Cond.static Lib.Math.min.name, Cond.initialized "java/lang/Math", Cond.code Lib.Math.min.name Lib.Math.min.code 2 (some .int)]
def wsX7_dueDay : List Cond := .code yX7_dueDay cX7_dueDay 3 (some .int) :: ((wsX7_dueDay_r1 ++ wsX7_dueDay_r2) ++ wsX70 ++ wsX30 ++ wsX40 ++ wsX60)
def wsX7_due_r1 : List Cond := [Cond.methodLink RX7 166 yX7_recordAt, Cond.instanceMethod yX7_recordAt, Cond.selects RX7 yX7_recordAt yX7_recordAt, Cond.initialized RX7, Cond.code yX7_recordAt cX7_recordAt 2 (some (.object "RecordsOffice$Filed")), Cond.classLink RX7 109 "java/lang/IndexOutOfBoundsException", Cond.initialized "java/lang/IndexOutOfBoundsException", Cond.fieldLink RX7 104 "RecordsOffice" "recordCount" "I", Cond.fieldLink RX7 33 "RecordsOffice" "records" "[LRecordsOffice$Filed;", Cond.methodLink RX7 174 yX7_dueDay, Cond.instanceMethod yX7_dueDay, Cond.selects RX7 yX7_dueDay yX7_dueDay, Cond.code yX7_dueDay cX7_dueDay 3 (some .int), Cond.fieldLink RX7 15 "RecordsOffice" "schedules" "[LRecordsOffice$Schedule;", Cond.fieldLink RX7 177 "RecordsOffice$Filed" "folder" "LRecordsOffice$Folder;", Cond.fieldLink RX7 353 "RecordsOffice$Folder" "cls" "I", Cond.methodLink RX7 362 yX7_eventDay, Cond.instanceMethod yX7_eventDay, Cond.selects RX7 yX7_eventDay yX7_eventDay, Cond.code yX7_eventDay cX7_eventDay 2 (some .int), Cond.fieldLink RX7 356 "RecordsOffice$Schedule" "event" "I", Cond.fieldLink RX7 125 "RecordsOffice$Folder" "closedDay" "I", Cond.fieldLink RX7 133 "RecordsOffice$Folder" "leftDay" "I", Cond.fieldLink RX7 184 "RecordsOffice$Filed" "day" "I"]
def wsX7_due_r2 : List Cond := [Cond.fieldLink RX7 50 "RecordsOffice" "fiscalMonth" "I", Cond.methodLink RX7 359 yX1_fiscalEnd, Cond.static yX1_fiscalEnd, Cond.initialized RX1, Cond.code yX1_fiscalEnd cX1_fiscalEnd 4 (some .int), Cond.methodLink RX1 17 yX1_monthOf, Cond.static yX1_monthOf, Cond.code yX1_monthOf cX1_monthOf 2 (some .int), Cond.methodLink RX1 13 yX1_firstOf, Cond.static yX1_firstOf, Cond.code yX1_firstOf cX1_firstOf 5 (some .int), Cond.fieldLink RX1 9 "RecordsOffice$Days" "BEFORE_MONTH" "[I", Cond.methodLink RX7 365 yX6_termFor, Cond.instanceMethod yX6_termFor, Cond.selects RX6 yX6_termFor yX6_termFor, Cond.initialized RX6, Cond.code yX6_termFor cX6_termFor 4 (some .int), Cond.fieldLink RX6 22 "RecordsOffice$Schedule" "size" "I", Cond.fieldLink RX6 9 "RecordsOffice$Schedule" "firstDays" "[I", Cond.fieldLink RX6 18 "RecordsOffice$Schedule" "forAll" "[Z", Cond.fieldLink RX6 15 "RecordsOffice$Schedule" "terms" "[I", Cond.methodLink RX7 315 yX1_plus, Cond.static yX1_plus, Cond.code yX1_plus cX1_plus 5 (some .int)]
def wsX7_due_r3 : List Cond := [Cond.methodLink RX1 20 Lib.Math.min.name, Cond.static Lib.Math.min.name, Cond.initialized "java/lang/Math", Cond.code Lib.Math.min.name Lib.Math.min.code 2 (some .int)]
def wsX7_ripeOn_r1 : List Cond := [Cond.fieldLink RX7 104 "RecordsOffice" "recordCount" "I", Cond.fieldLink RX7 33 "RecordsOffice" "records" "[LRecordsOffice$Filed;", Cond.fieldLink RX7 188 "RecordsOffice$Filed" "destroyed" "Z", Cond.methodLink RX7 170 yX7_holdsOver, Cond.instanceMethod yX7_holdsOver, Cond.selects RX7 yX7_holdsOver yX7_holdsOver, Cond.initialized RX7, Cond.code yX7_holdsOver cX7_holdsOver 4 (some .int), Cond.fieldLink RX7 27 "RecordsOffice" "holds" "[LRecordsOffice$Hold;", Cond.methodLink RX7 349 yX5_covers, Cond.instanceMethod yX5_covers, Cond.selects RX5 yX5_covers yX5_covers, Cond.initialized RX5, Cond.code yX5_covers cX5_covers 2 (some .boolean), Cond.fieldLink RX5 9 "RecordsOffice$Hold" "placed" "Z", Cond.fieldLink RX5 15 "RecordsOffice$Hold" "folder" "I", Cond.fieldLink RX5 31 "RecordsOffice$Filed" "folder" "LRecordsOffice$Folder;", Cond.fieldLink RX5 36 "RecordsOffice$Folder" "number" "I", Cond.fieldLink RX5 19 "RecordsOffice$Hold" "cls" "I", Cond.fieldLink RX5 41 "RecordsOffice$Folder" "cls" "I", Cond.fieldLink RX5 22 "RecordsOffice$Hold" "key" "I", Cond.fieldLink RX5 25 "RecordsOffice$Hold" "first" "I", Cond.fieldLink RX5 28 "RecordsOffice$Hold" "last" "I", Cond.methodLink RX5 42 yX3_hasKey]
def wsX7_ripeOn_r2 : List Cond := [Cond.instanceMethod yX3_hasKey, Cond.selects RX3 yX3_hasKey yX3_hasKey, Cond.initialized RX3, Cond.code yX3_hasKey cX3_hasKey 2 (some .boolean), Cond.fieldLink RX3 23 "RecordsOffice$Filed" "a" "I", Cond.fieldLink RX3 26 "RecordsOffice$Filed" "b" "I", Cond.fieldLink RX3 29 "RecordsOffice$Filed" "c" "I", Cond.methodLink RX5 46 yX3_isFiledFrom, Cond.instanceMethod yX3_isFiledFrom, Cond.selects RX3 yX3_isFiledFrom yX3_isFiledFrom, Cond.code yX3_isFiledFrom cX3_isFiledFrom 3 (some .boolean), Cond.fieldLink RX3 32 "RecordsOffice$Filed" "day" "I", Cond.methodLink RX7 174 yX7_dueDay, Cond.instanceMethod yX7_dueDay, Cond.selects RX7 yX7_dueDay yX7_dueDay, Cond.code yX7_dueDay cX7_dueDay 3 (some .int), Cond.fieldLink RX7 15 "RecordsOffice" "schedules" "[LRecordsOffice$Schedule;", Cond.fieldLink RX7 177 "RecordsOffice$Filed" "folder" "LRecordsOffice$Folder;", Cond.fieldLink RX7 353 "RecordsOffice$Folder" "cls" "I", Cond.methodLink RX7 362 yX7_eventDay, Cond.instanceMethod yX7_eventDay, Cond.selects RX7 yX7_eventDay yX7_eventDay, Cond.code yX7_eventDay cX7_eventDay 2 (some .int), Cond.fieldLink RX7 356 "RecordsOffice$Schedule" "event" "I"]
def wsX7_ripeOn_r3 : List Cond := [Cond.fieldLink RX7 125 "RecordsOffice$Folder" "closedDay" "I", Cond.fieldLink RX7 133 "RecordsOffice$Folder" "leftDay" "I", Cond.fieldLink RX7 184 "RecordsOffice$Filed" "day" "I", Cond.fieldLink RX7 50 "RecordsOffice" "fiscalMonth" "I", Cond.methodLink RX7 359 yX1_fiscalEnd, Cond.static yX1_fiscalEnd, Cond.initialized RX1, Cond.code yX1_fiscalEnd cX1_fiscalEnd 4 (some .int), Cond.methodLink RX1 17 yX1_monthOf, Cond.static yX1_monthOf, Cond.code yX1_monthOf cX1_monthOf 2 (some .int), Cond.methodLink RX1 13 yX1_firstOf, Cond.static yX1_firstOf, Cond.code yX1_firstOf cX1_firstOf 5 (some .int), Cond.fieldLink RX1 9 "RecordsOffice$Days" "BEFORE_MONTH" "[I", Cond.methodLink RX7 365 yX6_termFor, Cond.instanceMethod yX6_termFor, Cond.selects RX6 yX6_termFor yX6_termFor, Cond.initialized RX6, Cond.code yX6_termFor cX6_termFor 4 (some .int), Cond.fieldLink RX6 22 "RecordsOffice$Schedule" "size" "I", Cond.fieldLink RX6 9 "RecordsOffice$Schedule" "firstDays" "[I", Cond.fieldLink RX6 18 "RecordsOffice$Schedule" "forAll" "[Z", Cond.fieldLink RX6 15 "RecordsOffice$Schedule" "terms" "[I"]
def wsX7_ripeOn_r4 : List Cond := [Cond.methodLink RX7 315 yX1_plus, Cond.static yX1_plus, Cond.code yX1_plus cX1_plus 5 (some .int), Cond.methodLink RX1 20 Lib.Math.min.name, Cond.static Lib.Math.min.name, Cond.initialized "java/lang/Math", Cond.code Lib.Math.min.name Lib.Math.min.code 2 (some .int)]
def wsX7_ripeOn : List Cond := .code yX7_ripeOn cX7_ripeOn 7 (some .long) :: ((wsX7_ripeOn_r1 ++ (wsX7_ripeOn_r2 ++ (wsX7_ripeOn_r3 ++ wsX7_ripeOn_r4))) ++ wsX70 ++ wsX30 ++ wsX50 ++ wsX40 ++ wsX60)
def wsX7_draw_r1 : List Cond := [Cond.classLink RX7 89 "java/lang/IllegalStateException", Cond.initialized "java/lang/IllegalStateException", Cond.fieldLink RX7 215 "RecordsOffice" "listCount" "I", Cond.fieldLink RX7 39 "RecordsOffice" "lists" "[LRecordsOffice$DueList;", Cond.classLink RX7 37 RX2, Cond.instantiable RX2 4, Cond.initialized RX2, Cond.fieldLink RX7 130 "RecordsOffice" "today" "I", Cond.fieldLink RX7 46 "RecordsOffice" "book" "LRecordsOffice$Book;", Cond.methodLink RX7 56 yX7_needOfficer, Cond.static yX7_needOfficer, Cond.initialized RX7, Cond.code yX7_needOfficer cX7_needOfficer 1 none, Cond.classLink RX7 109 "java/lang/IndexOutOfBoundsException", Cond.initialized "java/lang/IndexOutOfBoundsException", Cond.methodLink RX7 122 yX7_needDayOfAct, Cond.instanceMethod yX7_needDayOfAct, Cond.selects RX7 yX7_needDayOfAct yX7_needDayOfAct, Cond.code yX7_needDayOfAct cX7_needDayOfAct 2 none, Cond.classLink RX7 60 "java/lang/IllegalArgumentException", Cond.initialized "java/lang/IllegalArgumentException", Cond.methodLink RX7 74 yX7_needDay, Cond.static yX7_needDay, Cond.code yX7_needDay cX7_needDay 1 none]
def wsX7_draw_r2 : List Cond := [Cond.constant RX7 334 (120000), Cond.methodLink RX7 212 yX7_needRight, Cond.instanceMethod yX7_needRight, Cond.selects RX7 yX7_needRight yX7_needRight, Cond.code yX7_needRight cX7_needRight 3 none, Cond.fieldLink RX7 9 "RecordsOffice" "rights" "[I", Cond.methodLink RX7 83 yX7_needRoom, Cond.instanceMethod yX7_needRoom, Cond.selects RX7 yX7_needRoom yX7_needRoom, Cond.code yX7_needRoom cX7_needRoom 2 none, Cond.fieldLink RX7 285 "RecordsOffice$Book" "size" "I", Cond.methodLink RX7 220 yX7_ripeOn, Cond.instanceMethod yX7_ripeOn, Cond.selects RX7 yX7_ripeOn yX7_ripeOn, Cond.code yX7_ripeOn cX7_ripeOn 7 (some .long), Cond.fieldLink RX7 104 "RecordsOffice" "recordCount" "I", Cond.fieldLink RX7 33 "RecordsOffice" "records" "[LRecordsOffice$Filed;", Cond.fieldLink RX7 188 "RecordsOffice$Filed" "destroyed" "Z", Cond.methodLink RX7 170 yX7_holdsOver, Cond.instanceMethod yX7_holdsOver, Cond.selects RX7 yX7_holdsOver yX7_holdsOver, Cond.code yX7_holdsOver cX7_holdsOver 4 (some .int), Cond.fieldLink RX7 27 "RecordsOffice" "holds" "[LRecordsOffice$Hold;", Cond.methodLink RX7 349 yX5_covers]
def wsX7_draw_r3 : List Cond := [Cond.instanceMethod yX5_covers, Cond.selects RX5 yX5_covers yX5_covers, Cond.initialized RX5, Cond.code yX5_covers cX5_covers 2 (some .boolean), Cond.fieldLink RX5 9 "RecordsOffice$Hold" "placed" "Z", Cond.fieldLink RX5 15 "RecordsOffice$Hold" "folder" "I", Cond.fieldLink RX5 31 "RecordsOffice$Filed" "folder" "LRecordsOffice$Folder;", Cond.fieldLink RX5 36 "RecordsOffice$Folder" "number" "I", Cond.fieldLink RX5 19 "RecordsOffice$Hold" "cls" "I", Cond.fieldLink RX5 41 "RecordsOffice$Folder" "cls" "I", Cond.fieldLink RX5 22 "RecordsOffice$Hold" "key" "I", Cond.fieldLink RX5 25 "RecordsOffice$Hold" "first" "I", Cond.fieldLink RX5 28 "RecordsOffice$Hold" "last" "I", Cond.methodLink RX5 42 yX3_hasKey, Cond.instanceMethod yX3_hasKey, Cond.selects RX3 yX3_hasKey yX3_hasKey, Cond.initialized RX3, Cond.code yX3_hasKey cX3_hasKey 2 (some .boolean), Cond.fieldLink RX3 23 "RecordsOffice$Filed" "a" "I", Cond.fieldLink RX3 26 "RecordsOffice$Filed" "b" "I", Cond.fieldLink RX3 29 "RecordsOffice$Filed" "c" "I", Cond.methodLink RX5 46 yX3_isFiledFrom, Cond.instanceMethod yX3_isFiledFrom, Cond.selects RX3 yX3_isFiledFrom yX3_isFiledFrom]
def wsX7_draw_r4 : List Cond := [Cond.code yX3_isFiledFrom cX3_isFiledFrom 3 (some .boolean), Cond.fieldLink RX3 32 "RecordsOffice$Filed" "day" "I", Cond.methodLink RX7 174 yX7_dueDay, Cond.instanceMethod yX7_dueDay, Cond.selects RX7 yX7_dueDay yX7_dueDay, Cond.code yX7_dueDay cX7_dueDay 3 (some .int), Cond.fieldLink RX7 15 "RecordsOffice" "schedules" "[LRecordsOffice$Schedule;", Cond.fieldLink RX7 177 "RecordsOffice$Filed" "folder" "LRecordsOffice$Folder;", Cond.fieldLink RX7 353 "RecordsOffice$Folder" "cls" "I", Cond.methodLink RX7 362 yX7_eventDay, Cond.instanceMethod yX7_eventDay, Cond.selects RX7 yX7_eventDay yX7_eventDay, Cond.code yX7_eventDay cX7_eventDay 2 (some .int), Cond.fieldLink RX7 356 "RecordsOffice$Schedule" "event" "I", Cond.fieldLink RX7 125 "RecordsOffice$Folder" "closedDay" "I", Cond.fieldLink RX7 133 "RecordsOffice$Folder" "leftDay" "I", Cond.fieldLink RX7 184 "RecordsOffice$Filed" "day" "I", Cond.fieldLink RX7 50 "RecordsOffice" "fiscalMonth" "I", Cond.methodLink RX7 359 yX1_fiscalEnd, Cond.static yX1_fiscalEnd, Cond.initialized RX1, Cond.code yX1_fiscalEnd cX1_fiscalEnd 4 (some .int), Cond.methodLink RX1 17 yX1_monthOf, Cond.static yX1_monthOf]
def wsX7_draw_r5 : List Cond := [Cond.code yX1_monthOf cX1_monthOf 2 (some .int), Cond.methodLink RX1 13 yX1_firstOf, Cond.static yX1_firstOf, Cond.code yX1_firstOf cX1_firstOf 5 (some .int), Cond.fieldLink RX1 9 "RecordsOffice$Days" "BEFORE_MONTH" "[I", Cond.methodLink RX7 365 yX6_termFor, Cond.instanceMethod yX6_termFor, Cond.selects RX6 yX6_termFor yX6_termFor, Cond.initialized RX6, Cond.code yX6_termFor cX6_termFor 4 (some .int), Cond.fieldLink RX6 22 "RecordsOffice$Schedule" "size" "I", Cond.fieldLink RX6 9 "RecordsOffice$Schedule" "firstDays" "[I", Cond.fieldLink RX6 18 "RecordsOffice$Schedule" "forAll" "[Z", Cond.fieldLink RX6 15 "RecordsOffice$Schedule" "terms" "[I", Cond.methodLink RX7 315 yX1_plus, Cond.static yX1_plus, Cond.code yX1_plus cX1_plus 5 (some .int), Cond.methodLink RX1 20 Lib.Math.min.name, Cond.static Lib.Math.min.name, Cond.initialized "java/lang/Math", Cond.code Lib.Math.min.name Lib.Math.min.code 2 (some .int), Cond.methodLink RX7 226 yX2_init, Cond.instanceMethod yX2_init, Cond.code yX2_init cX2_init 4 none]
def wsX7_draw_r6 : List Cond := [Cond.methodLink RX2 3 objectInit, Cond.instanceMethod objectInit, Cond.code objectInit ⟨#[0xb1]⟩ 1 none, Cond.fieldLink RX2 9 "RecordsOffice$DueList" "isOpen" "Z", Cond.fieldLink RX2 15 "RecordsOffice$DueList" "drawnBy" "I", Cond.fieldLink RX2 19 "RecordsOffice$DueList" "members" "J", Cond.methodLink RX7 229 yX2_size, Cond.instanceMethod yX2_size, Cond.selects RX2 yX2_size yX2_size, Cond.code yX2_size cX2_size 1 (some .int), Cond.methodLink RX2 23 yJ13_bitCount_95d88, Cond.static yJ13_bitCount_95d88, Cond.initialized RJ13, Cond.code yJ13_bitCount_95d88 cJ13_bitCount_95d88 2 (some .int), Cond.constantLong RJ13 314 (6148914691236517205), Cond.constantLong RJ13 316 (3689348814741910323), Cond.constantLong RJ13 318 (1085102592571150095), Cond.methodLink RX7 98 yX0_write, Cond.instanceMethod yX0_write, Cond.selects RX0 yX0_write yX0_write, Cond.initialized RX0, Cond.code yX0_write cX0_write 8 none, Cond.fieldLink RX0 19 "RecordsOffice$Book" "size" "I", Cond.fieldLink RX0 15 "RecordsOffice$Book" "links" "[J"]
def wsX7_draw_r7 : List Cond := [Cond.methodLink RX0 23 yX0_setNumber, Cond.instanceMethod yX0_setNumber, Cond.selects RX0 yX0_setNumber yX0_setNumber, Cond.code yX0_setNumber cX0_setNumber 4 none, Cond.fieldLink RX0 11 "RecordsOffice$Book" "numbers" "[I", Cond.methodLink RX0 27 yX0_linkFor, Cond.instanceMethod yX0_linkFor, Cond.selects RX0 yX0_linkFor yX0_linkFor, Cond.code yX0_linkFor cX0_linkFor 7 (some .long), Cond.methodLink RX0 31 yX0_number, Cond.instanceMethod yX0_number, Cond.selects RX0 yX0_number yX0_number, Cond.code yX0_number cX0_number 3 (some .int), Cond.methodLink RX0 35 yX0_mix, Cond.static yX0_mix, Cond.code yX0_mix cX0_mix 6 (some .long), Cond.constantLong RX0 39 (7046029254386353131)]
def wsX7_approve_r1 : List Cond := [Cond.classLink RX7 89 "java/lang/IllegalStateException", Cond.initialized "java/lang/IllegalStateException", Cond.fieldLink RX7 245 "RecordsOffice$DueList" "drawnBy" "I", Cond.fieldLink RX7 46 "RecordsOffice" "book" "LRecordsOffice$Book;", Cond.methodLink RX7 231 yX7_listAt, Cond.instanceMethod yX7_listAt, Cond.selects RX7 yX7_listAt yX7_listAt, Cond.initialized RX7, Cond.code yX7_listAt cX7_listAt 2 (some (.object "RecordsOffice$DueList")), Cond.classLink RX7 109 "java/lang/IndexOutOfBoundsException", Cond.initialized "java/lang/IndexOutOfBoundsException", Cond.fieldLink RX7 215 "RecordsOffice" "listCount" "I", Cond.fieldLink RX7 39 "RecordsOffice" "lists" "[LRecordsOffice$DueList;", Cond.methodLink RX7 56 yX7_needOfficer, Cond.static yX7_needOfficer, Cond.code yX7_needOfficer cX7_needOfficer 1 none, Cond.methodLink RX7 241 yX7_needOpen, Cond.static yX7_needOpen, Cond.code yX7_needOpen cX7_needOpen 1 none, Cond.fieldLink RX7 282 "RecordsOffice$DueList" "isOpen" "Z", Cond.methodLink RX7 212 yX7_needRight, Cond.instanceMethod yX7_needRight, Cond.selects RX7 yX7_needRight yX7_needRight, Cond.code yX7_needRight cX7_needRight 3 none]
def wsX7_approve_r2 : List Cond := [Cond.fieldLink RX7 9 "RecordsOffice" "rights" "[I", Cond.methodLink RX7 83 yX7_needRoom, Cond.instanceMethod yX7_needRoom, Cond.selects RX7 yX7_needRoom yX7_needRoom, Cond.code yX7_needRoom cX7_needRoom 2 none, Cond.fieldLink RX7 285 "RecordsOffice$Book" "size" "I", Cond.methodLink RX7 248 yX2_isApprovedBy, Cond.instanceMethod yX2_isApprovedBy, Cond.selects RX2 yX2_isApprovedBy yX2_isApprovedBy, Cond.initialized RX2, Cond.code yX2_isApprovedBy cX2_isApprovedBy 2 (some .boolean), Cond.fieldLink RX2 35 "RecordsOffice$DueList" "approvers" "I", Cond.methodLink RX7 253 yX2_addApproval, Cond.instanceMethod yX2_addApproval, Cond.selects RX2 yX2_addApproval yX2_addApproval, Cond.code yX2_addApproval cX2_addApproval 2 none, Cond.methodLink RX7 98 yX0_write, Cond.instanceMethod yX0_write, Cond.selects RX0 yX0_write yX0_write, Cond.initialized RX0, Cond.code yX0_write cX0_write 8 none, Cond.fieldLink RX0 19 "RecordsOffice$Book" "size" "I", Cond.fieldLink RX0 15 "RecordsOffice$Book" "links" "[J", Cond.methodLink RX0 23 yX0_setNumber]
def wsX7_approve_r3 : List Cond := [Cond.instanceMethod yX0_setNumber, Cond.selects RX0 yX0_setNumber yX0_setNumber, Cond.code yX0_setNumber cX0_setNumber 4 none, Cond.fieldLink RX0 11 "RecordsOffice$Book" "numbers" "[I", Cond.methodLink RX0 27 yX0_linkFor, Cond.instanceMethod yX0_linkFor, Cond.selects RX0 yX0_linkFor yX0_linkFor, Cond.code yX0_linkFor cX0_linkFor 7 (some .long), Cond.methodLink RX0 31 yX0_number, Cond.instanceMethod yX0_number, Cond.selects RX0 yX0_number yX0_number, Cond.code yX0_number cX0_number 3 (some .int), Cond.methodLink RX0 35 yX0_mix, Cond.static yX0_mix, Cond.code yX0_mix cX0_mix 6 (some .long), Cond.constantLong RX0 39 (7046029254386353131), Cond.methodLink RX7 256 yX2_approvals, Cond.instanceMethod yX2_approvals, Cond.selects RX2 yX2_approvals yX2_approvals, Cond.code yX2_approvals cX2_approvals 1 (some .int), Cond.methodLink RX2 38 yJ6_bitCount_0f7a4, Cond.static yJ6_bitCount_0f7a4, Cond.initialized RJ6, Cond.code yJ6_bitCount_0f7a4 cJ6_bitCount_0f7a4 1 (some .int)]
def wsX7_approve_r4 : List Cond := [Cond.constant RJ6 265 (1431655765), Cond.constant RJ6 266 (858993459), Cond.constant RJ6 267 (252645135)]
def wsX7_strike_r1 : List Cond := [Cond.classLink RX7 109 "java/lang/IndexOutOfBoundsException", Cond.initialized "java/lang/IndexOutOfBoundsException", Cond.fieldLink RX7 46 "RecordsOffice" "book" "LRecordsOffice$Book;", Cond.methodLink RX7 231 yX7_listAt, Cond.instanceMethod yX7_listAt, Cond.selects RX7 yX7_listAt yX7_listAt, Cond.initialized RX7, Cond.code yX7_listAt cX7_listAt 2 (some (.object "RecordsOffice$DueList")), Cond.fieldLink RX7 215 "RecordsOffice" "listCount" "I", Cond.fieldLink RX7 39 "RecordsOffice" "lists" "[LRecordsOffice$DueList;", Cond.methodLink RX7 259 yX2_has, Cond.instanceMethod yX2_has, Cond.selects RX2 yX2_has yX2_has, Cond.initialized RX2, Cond.code yX2_has cX2_has 2 (some .boolean), Cond.fieldLink RX2 19 "RecordsOffice$DueList" "members" "J", Cond.methodLink RX7 241 yX7_needOpen, Cond.static yX7_needOpen, Cond.code yX7_needOpen cX7_needOpen 1 none, Cond.classLink RX7 89 "java/lang/IllegalStateException", Cond.initialized "java/lang/IllegalStateException", Cond.fieldLink RX7 282 "RecordsOffice$DueList" "isOpen" "Z", Cond.methodLink RX7 83 yX7_needRoom, Cond.instanceMethod yX7_needRoom]
def wsX7_strike_r2 : List Cond := [Cond.selects RX7 yX7_needRoom yX7_needRoom, Cond.code yX7_needRoom cX7_needRoom 2 none, Cond.fieldLink RX7 285 "RecordsOffice$Book" "size" "I", Cond.methodLink RX7 264 yX2_remove, Cond.instanceMethod yX2_remove, Cond.selects RX2 yX2_remove yX2_remove, Cond.code yX2_remove cX2_remove 2 none, Cond.constantLong RX2 29 (-1), Cond.methodLink RX7 98 yX0_write, Cond.instanceMethod yX0_write, Cond.selects RX0 yX0_write yX0_write, Cond.initialized RX0, Cond.code yX0_write cX0_write 8 none, Cond.fieldLink RX0 19 "RecordsOffice$Book" "size" "I", Cond.fieldLink RX0 15 "RecordsOffice$Book" "links" "[J", Cond.methodLink RX0 23 yX0_setNumber, Cond.instanceMethod yX0_setNumber, Cond.selects RX0 yX0_setNumber yX0_setNumber, Cond.code yX0_setNumber cX0_setNumber 4 none, Cond.fieldLink RX0 11 "RecordsOffice$Book" "numbers" "[I", Cond.methodLink RX0 27 yX0_linkFor, Cond.instanceMethod yX0_linkFor, Cond.selects RX0 yX0_linkFor yX0_linkFor, Cond.code yX0_linkFor cX0_linkFor 7 (some .long)]
def wsX7_strike_r3 : List Cond := [Cond.methodLink RX0 31 yX0_number, Cond.instanceMethod yX0_number, Cond.selects RX0 yX0_number yX0_number, Cond.code yX0_number cX0_number 3 (some .int), Cond.methodLink RX0 35 yX0_mix, Cond.static yX0_mix, Cond.code yX0_mix cX0_mix 6 (some .long), Cond.constantLong RX0 39 (7046029254386353131), Cond.methodLink RX7 229 yX2_size, Cond.instanceMethod yX2_size, Cond.selects RX2 yX2_size yX2_size, Cond.code yX2_size cX2_size 1 (some .int), Cond.methodLink RX2 23 yJ13_bitCount_95d88, Cond.static yJ13_bitCount_95d88, Cond.initialized RJ13, Cond.code yJ13_bitCount_95d88 cJ13_bitCount_95d88 2 (some .int), Cond.constantLong RJ13 314 (6148914691236517205), Cond.constantLong RJ13 316 (3689348814741910323), Cond.constantLong RJ13 318 (1085102592571150095)]
def wsX7_destroyAll_r1 : List Cond := [Cond.fieldLink RX7 104 "RecordsOffice" "recordCount" "I", Cond.fieldLink RX7 33 "RecordsOffice" "records" "[LRecordsOffice$Filed;", Cond.fieldLink RX7 188 "RecordsOffice$Filed" "destroyed" "Z", Cond.fieldLink RX7 46 "RecordsOffice" "book" "LRecordsOffice$Book;", Cond.fieldLink RX7 199 "RecordsOffice$Filed" "digest" "J", Cond.methodLink RX7 98 yX0_write, Cond.instanceMethod yX0_write, Cond.selects RX0 yX0_write yX0_write, Cond.initialized RX0, Cond.code yX0_write cX0_write 8 none, Cond.fieldLink RX0 19 "RecordsOffice$Book" "size" "I", Cond.fieldLink RX0 15 "RecordsOffice$Book" "links" "[J", Cond.methodLink RX0 23 yX0_setNumber, Cond.instanceMethod yX0_setNumber, Cond.selects RX0 yX0_setNumber yX0_setNumber, Cond.code yX0_setNumber cX0_setNumber 4 none, Cond.fieldLink RX0 11 "RecordsOffice$Book" "numbers" "[I", Cond.methodLink RX0 27 yX0_linkFor, Cond.instanceMethod yX0_linkFor, Cond.selects RX0 yX0_linkFor yX0_linkFor, Cond.code yX0_linkFor cX0_linkFor 7 (some .long), Cond.methodLink RX0 31 yX0_number, Cond.instanceMethod yX0_number, Cond.selects RX0 yX0_number yX0_number]
def wsX7_destroyAll_r2 : List Cond := [Cond.code yX0_number cX0_number 3 (some .int), Cond.methodLink RX0 35 yX0_mix, Cond.static yX0_mix, Cond.code yX0_mix cX0_mix 6 (some .long), Cond.constantLong RX0 39 (7046029254386353131)]
def wsX7_destroyAll : List Cond := .code yX7_destroyAll cX7_destroyAll 6 none :: ((wsX7_destroyAll_r1 ++ wsX7_destroyAll_r2) ++ wsX70 ++ wsX30 ++ wsX00)
def wsX7_carry_r1 : List Cond := [Cond.classLink RX7 89 "java/lang/IllegalStateException", Cond.initialized "java/lang/IllegalStateException", Cond.fieldLink RX7 269 "RecordsOffice$DueList" "members" "J", Cond.fieldLink RX7 282 "RecordsOffice$DueList" "isOpen" "Z", Cond.fieldLink RX7 130 "RecordsOffice" "today" "I", Cond.fieldLink RX7 46 "RecordsOffice" "book" "LRecordsOffice$Book;", Cond.methodLink RX7 231 yX7_listAt, Cond.instanceMethod yX7_listAt, Cond.selects RX7 yX7_listAt yX7_listAt, Cond.initialized RX7, Cond.code yX7_listAt cX7_listAt 2 (some (.object "RecordsOffice$DueList")), Cond.classLink RX7 109 "java/lang/IndexOutOfBoundsException", Cond.initialized "java/lang/IndexOutOfBoundsException", Cond.fieldLink RX7 215 "RecordsOffice" "listCount" "I", Cond.fieldLink RX7 39 "RecordsOffice" "lists" "[LRecordsOffice$DueList;", Cond.methodLink RX7 56 yX7_needOfficer, Cond.static yX7_needOfficer, Cond.code yX7_needOfficer cX7_needOfficer 1 none, Cond.methodLink RX7 122 yX7_needDayOfAct, Cond.instanceMethod yX7_needDayOfAct, Cond.selects RX7 yX7_needDayOfAct yX7_needDayOfAct, Cond.code yX7_needDayOfAct cX7_needDayOfAct 2 none, Cond.classLink RX7 60 "java/lang/IllegalArgumentException", Cond.initialized "java/lang/IllegalArgumentException"]
def wsX7_carry_r2 : List Cond := [Cond.methodLink RX7 74 yX7_needDay, Cond.static yX7_needDay, Cond.code yX7_needDay cX7_needDay 1 none, Cond.constant RX7 334 (120000), Cond.methodLink RX7 241 yX7_needOpen, Cond.static yX7_needOpen, Cond.code yX7_needOpen cX7_needOpen 1 none, Cond.methodLink RX7 212 yX7_needRight, Cond.instanceMethod yX7_needRight, Cond.selects RX7 yX7_needRight yX7_needRight, Cond.code yX7_needRight cX7_needRight 3 none, Cond.fieldLink RX7 9 "RecordsOffice" "rights" "[I", Cond.methodLink RX7 256 yX2_approvals, Cond.instanceMethod yX2_approvals, Cond.selects RX2 yX2_approvals yX2_approvals, Cond.initialized RX2, Cond.code yX2_approvals cX2_approvals 1 (some .int), Cond.fieldLink RX2 35 "RecordsOffice$DueList" "approvers" "I", Cond.methodLink RX2 38 yJ6_bitCount_0f7a4, Cond.static yJ6_bitCount_0f7a4, Cond.initialized RJ6, Cond.code yJ6_bitCount_0f7a4 cJ6_bitCount_0f7a4 1 (some .int), Cond.constant RJ6 265 (1431655765), Cond.constant RJ6 266 (858993459)]
def wsX7_carry_r3 : List Cond := [Cond.constant RJ6 267 (252645135), Cond.methodLink RX7 220 yX7_ripeOn, Cond.instanceMethod yX7_ripeOn, Cond.selects RX7 yX7_ripeOn yX7_ripeOn, Cond.code yX7_ripeOn cX7_ripeOn 7 (some .long), Cond.fieldLink RX7 104 "RecordsOffice" "recordCount" "I", Cond.fieldLink RX7 33 "RecordsOffice" "records" "[LRecordsOffice$Filed;", Cond.fieldLink RX7 188 "RecordsOffice$Filed" "destroyed" "Z", Cond.methodLink RX7 170 yX7_holdsOver, Cond.instanceMethod yX7_holdsOver, Cond.selects RX7 yX7_holdsOver yX7_holdsOver, Cond.code yX7_holdsOver cX7_holdsOver 4 (some .int), Cond.fieldLink RX7 27 "RecordsOffice" "holds" "[LRecordsOffice$Hold;", Cond.methodLink RX7 349 yX5_covers, Cond.instanceMethod yX5_covers, Cond.selects RX5 yX5_covers yX5_covers, Cond.initialized RX5, Cond.code yX5_covers cX5_covers 2 (some .boolean), Cond.fieldLink RX5 9 "RecordsOffice$Hold" "placed" "Z", Cond.fieldLink RX5 15 "RecordsOffice$Hold" "folder" "I", Cond.fieldLink RX5 31 "RecordsOffice$Filed" "folder" "LRecordsOffice$Folder;", Cond.fieldLink RX5 36 "RecordsOffice$Folder" "number" "I", Cond.fieldLink RX5 19 "RecordsOffice$Hold" "cls" "I", Cond.fieldLink RX5 41 "RecordsOffice$Folder" "cls" "I"]
def wsX7_carry_r4 : List Cond := [Cond.fieldLink RX5 22 "RecordsOffice$Hold" "key" "I", Cond.fieldLink RX5 25 "RecordsOffice$Hold" "first" "I", Cond.fieldLink RX5 28 "RecordsOffice$Hold" "last" "I", Cond.methodLink RX5 42 yX3_hasKey, Cond.instanceMethod yX3_hasKey, Cond.selects RX3 yX3_hasKey yX3_hasKey, Cond.initialized RX3, Cond.code yX3_hasKey cX3_hasKey 2 (some .boolean), Cond.fieldLink RX3 23 "RecordsOffice$Filed" "a" "I", Cond.fieldLink RX3 26 "RecordsOffice$Filed" "b" "I", Cond.fieldLink RX3 29 "RecordsOffice$Filed" "c" "I", Cond.methodLink RX5 46 yX3_isFiledFrom, Cond.instanceMethod yX3_isFiledFrom, Cond.selects RX3 yX3_isFiledFrom yX3_isFiledFrom, Cond.code yX3_isFiledFrom cX3_isFiledFrom 3 (some .boolean), Cond.fieldLink RX3 32 "RecordsOffice$Filed" "day" "I", Cond.methodLink RX7 174 yX7_dueDay, Cond.instanceMethod yX7_dueDay, Cond.selects RX7 yX7_dueDay yX7_dueDay, Cond.code yX7_dueDay cX7_dueDay 3 (some .int), Cond.fieldLink RX7 15 "RecordsOffice" "schedules" "[LRecordsOffice$Schedule;", Cond.fieldLink RX7 177 "RecordsOffice$Filed" "folder" "LRecordsOffice$Folder;", Cond.fieldLink RX7 353 "RecordsOffice$Folder" "cls" "I", Cond.methodLink RX7 362 yX7_eventDay]
def wsX7_carry_r5 : List Cond := [Cond.instanceMethod yX7_eventDay, Cond.selects RX7 yX7_eventDay yX7_eventDay, Cond.code yX7_eventDay cX7_eventDay 2 (some .int), Cond.fieldLink RX7 356 "RecordsOffice$Schedule" "event" "I", Cond.fieldLink RX7 125 "RecordsOffice$Folder" "closedDay" "I", Cond.fieldLink RX7 133 "RecordsOffice$Folder" "leftDay" "I", Cond.fieldLink RX7 184 "RecordsOffice$Filed" "day" "I", Cond.fieldLink RX7 50 "RecordsOffice" "fiscalMonth" "I", Cond.methodLink RX7 359 yX1_fiscalEnd, Cond.static yX1_fiscalEnd, Cond.initialized RX1, Cond.code yX1_fiscalEnd cX1_fiscalEnd 4 (some .int), Cond.methodLink RX1 17 yX1_monthOf, Cond.static yX1_monthOf, Cond.code yX1_monthOf cX1_monthOf 2 (some .int), Cond.methodLink RX1 13 yX1_firstOf, Cond.static yX1_firstOf, Cond.code yX1_firstOf cX1_firstOf 5 (some .int), Cond.fieldLink RX1 9 "RecordsOffice$Days" "BEFORE_MONTH" "[I", Cond.methodLink RX7 365 yX6_termFor, Cond.instanceMethod yX6_termFor, Cond.selects RX6 yX6_termFor yX6_termFor, Cond.initialized RX6, Cond.code yX6_termFor cX6_termFor 4 (some .int)]
def wsX7_carry_r6 : List Cond := [Cond.fieldLink RX6 22 "RecordsOffice$Schedule" "size" "I", Cond.fieldLink RX6 9 "RecordsOffice$Schedule" "firstDays" "[I", Cond.fieldLink RX6 18 "RecordsOffice$Schedule" "forAll" "[Z", Cond.fieldLink RX6 15 "RecordsOffice$Schedule" "terms" "[I", Cond.methodLink RX7 315 yX1_plus, Cond.static yX1_plus, Cond.code yX1_plus cX1_plus 5 (some .int), Cond.methodLink RX1 20 Lib.Math.min.name, Cond.static Lib.Math.min.name, Cond.initialized "java/lang/Math", Cond.code Lib.Math.min.name Lib.Math.min.code 2 (some .int), Cond.methodLink RX7 272 yJ13_bitCount_95d88, Cond.static yJ13_bitCount_95d88, Cond.initialized RJ13, Cond.code yJ13_bitCount_95d88 cJ13_bitCount_95d88 2 (some .int), Cond.constantLong RJ13 314 (6148914691236517205), Cond.constantLong RJ13 316 (3689348814741910323), Cond.constantLong RJ13 318 (1085102592571150095), Cond.methodLink RX7 83 yX7_needRoom, Cond.instanceMethod yX7_needRoom, Cond.selects RX7 yX7_needRoom yX7_needRoom, Cond.code yX7_needRoom cX7_needRoom 2 none, Cond.fieldLink RX7 285 "RecordsOffice$Book" "size" "I", Cond.methodLink RX7 278 yX7_destroyAll]
def wsX7_carry_r7 : List Cond := [Cond.instanceMethod yX7_destroyAll, Cond.selects RX7 yX7_destroyAll yX7_destroyAll, Cond.code yX7_destroyAll cX7_destroyAll 6 none, Cond.fieldLink RX7 199 "RecordsOffice$Filed" "digest" "J", Cond.methodLink RX7 98 yX0_write, Cond.instanceMethod yX0_write, Cond.selects RX0 yX0_write yX0_write, Cond.initialized RX0, Cond.code yX0_write cX0_write 8 none, Cond.fieldLink RX0 19 "RecordsOffice$Book" "size" "I", Cond.fieldLink RX0 15 "RecordsOffice$Book" "links" "[J", Cond.methodLink RX0 23 yX0_setNumber, Cond.instanceMethod yX0_setNumber, Cond.selects RX0 yX0_setNumber yX0_setNumber, Cond.code yX0_setNumber cX0_setNumber 4 none, Cond.fieldLink RX0 11 "RecordsOffice$Book" "numbers" "[I", Cond.methodLink RX0 27 yX0_linkFor, Cond.instanceMethod yX0_linkFor, Cond.selects RX0 yX0_linkFor yX0_linkFor, Cond.code yX0_linkFor cX0_linkFor 7 (some .long), Cond.methodLink RX0 31 yX0_number, Cond.instanceMethod yX0_number, Cond.selects RX0 yX0_number yX0_number, Cond.code yX0_number cX0_number 3 (some .int)]
def wsX7_carry_r8 : List Cond := [Cond.methodLink RX0 35 yX0_mix, Cond.static yX0_mix, Cond.code yX0_mix cX0_mix 6 (some .long), Cond.constantLong RX0 39 (7046029254386353131), Cond.methodLink RX7 229 yX2_size, Cond.instanceMethod yX2_size, Cond.selects RX2 yX2_size yX2_size, Cond.code yX2_size cX2_size 1 (some .int), Cond.fieldLink RX2 19 "RecordsOffice$DueList" "members" "J", Cond.methodLink RX2 23 yJ13_bitCount_95d88]
def wsX7_bytesKept : List Cond := .code yX7_bytesKept cX7_bytesKept 3 (some .int) :: ([.fieldLink RX7 104 "RecordsOffice" "recordCount" "I", .fieldLink RX7 33 "RecordsOffice" "records" "[LRecordsOffice$Filed;", .fieldLink RX7 188 "RecordsOffice$Filed" "destroyed" "Z", .fieldLink RX7 187 "RecordsOffice$Filed" "size" "I"] ++ wsX70 ++ wsX30)
def wsX7_digestOf : List Cond := .code yX7_digestOf cX7_digestOf 2 (some .long) :: ([.fieldLink RX7 104 "RecordsOffice" "recordCount" "I", .fieldLink RX7 33 "RecordsOffice" "records" "[LRecordsOffice$Filed;", .fieldLink RX7 199 "RecordsOffice$Filed" "digest" "J"] ++ wsX70 ++ wsX30)
def wsX7_broken_r1 : List Cond := [Cond.fieldLink RX7 46 "RecordsOffice" "book" "LRecordsOffice$Book;", Cond.fieldLink RX7 285 "RecordsOffice$Book" "size" "I", Cond.fieldLink RX7 300 "RecordsOffice$Book" "links" "[J", Cond.methodLink RX7 297 yX0_number, Cond.instanceMethod yX0_number, Cond.selects RX0 yX0_number yX0_number, Cond.initialized RX0, Cond.code yX0_number cX0_number 3 (some .int), Cond.fieldLink RX0 11 "RecordsOffice$Book" "numbers" "[I", Cond.methodLink RX7 308 yX7_digestOf, Cond.instanceMethod yX7_digestOf, Cond.selects RX7 yX7_digestOf yX7_digestOf, Cond.initialized RX7, Cond.code yX7_digestOf cX7_digestOf 2 (some .long), Cond.fieldLink RX7 104 "RecordsOffice" "recordCount" "I", Cond.fieldLink RX7 33 "RecordsOffice" "records" "[LRecordsOffice$Filed;", Cond.fieldLink RX7 199 "RecordsOffice$Filed" "digest" "J", Cond.methodLink RX7 311 yX0_linkFor, Cond.instanceMethod yX0_linkFor, Cond.selects RX0 yX0_linkFor yX0_linkFor, Cond.code yX0_linkFor cX0_linkFor 7 (some .long), Cond.fieldLink RX0 15 "RecordsOffice$Book" "links" "[J", Cond.methodLink RX0 31 yX0_number, Cond.methodLink RX0 35 yX0_mix]
def wsX7_broken_r2 : List Cond := [Cond.static yX0_mix, Cond.code yX0_mix cX0_mix 6 (some .long), Cond.constantLong RX0 39 (7046029254386353131)]
def wsX7_broken : List Cond := .code yX7_broken cX7_broken 2 (some .int) :: ((wsX7_broken_r1 ++ wsX7_broken_r2) ++ wsX70 ++ wsX00 ++ wsX30)
def wsX7_later_r1 : List Cond := [Cond.methodLink RX7 74 yX7_needDay, Cond.static yX7_needDay, Cond.initialized RX7, Cond.code yX7_needDay cX7_needDay 1 none, Cond.classLink RX7 60 "java/lang/IllegalArgumentException", Cond.initialized "java/lang/IllegalArgumentException", Cond.constant RX7 334 (120000), Cond.methodLink RX7 70 yX7_needTerm, Cond.static yX7_needTerm, Cond.code yX7_needTerm cX7_needTerm 2 none, Cond.methodLink RX7 315 yX1_plus, Cond.static yX1_plus, Cond.initialized RX1, Cond.code yX1_plus cX1_plus 5 (some .int), Cond.methodLink RX1 20 Lib.Math.min.name, Cond.static Lib.Math.min.name, Cond.initialized "java/lang/Math", Cond.code Lib.Math.min.name Lib.Math.min.code 2 (some .int), Cond.methodLink RX1 17 yX1_monthOf, Cond.static yX1_monthOf, Cond.code yX1_monthOf cX1_monthOf 2 (some .int), Cond.methodLink RX1 13 yX1_firstOf, Cond.static yX1_firstOf, Cond.code yX1_firstOf cX1_firstOf 5 (some .int)]
def wsX7_later_r2 : List Cond := [Cond.fieldLink RX1 9 "RecordsOffice$Days" "BEFORE_MONTH" "[I"]
def wsX8_init_r1 : List Cond := [Cond.methodLink RX8 1 objectInit, Cond.instanceMethod objectInit, Cond.code objectInit ⟨#[0xb1]⟩ 1 none, Cond.arrayClass .int, Cond.fieldLink RX8 7 "RecordsOfficeModel" "rights" "[I", Cond.fieldLink RX8 13 "RecordsOfficeModel" "fiscal" "I", Cond.fieldLink RX8 17 "RecordsOfficeModel" "events" "[I", Cond.fieldLink RX8 20 "RecordsOfficeModel" "versions" "[I", Cond.fieldLink RX8 23 "RecordsOfficeModel" "terms" "[I", Cond.fieldLink RX8 26 "RecordsOfficeModel" "begins" "[I", Cond.arrayClass .boolean, Cond.fieldLink RX8 29 "RecordsOfficeModel" "forAll" "[Z", Cond.fieldLink RX8 33 "RecordsOfficeModel" "classes" "[I", Cond.fieldLink RX8 36 "RecordsOfficeModel" "closed" "[I", Cond.fieldLink RX8 39 "RecordsOfficeModel" "gone" "[I", Cond.fieldLink RX8 42 "RecordsOfficeModel" "folders" "[I", Cond.fieldLink RX8 45 "RecordsOfficeModel" "days" "[I", Cond.fieldLink RX8 48 "RecordsOfficeModel" "sizes" "[I", Cond.arrayClass .long, Cond.fieldLink RX8 51 "RecordsOfficeModel" "digests" "[J", Cond.fieldLink RX8 55 "RecordsOfficeModel" "keys" "[I", Cond.fieldLink RX8 58 "RecordsOfficeModel" "destroyed" "[Z", Cond.fieldLink RX8 61 "RecordsOfficeModel" "placed" "[Z", Cond.fieldLink RX8 64 "RecordsOfficeModel" "holdFolders" "[I"]
def wsX8_init_r2 : List Cond := [Cond.fieldLink RX8 67 "RecordsOfficeModel" "holdClasses" "[I", Cond.fieldLink RX8 70 "RecordsOfficeModel" "holdKeys" "[I", Cond.fieldLink RX8 73 "RecordsOfficeModel" "holdFirsts" "[I", Cond.fieldLink RX8 76 "RecordsOfficeModel" "holdLasts" "[I", Cond.fieldLink RX8 79 "RecordsOfficeModel" "listed" "[I", Cond.fieldLink RX8 82 "RecordsOfficeModel" "lengths" "[I", Cond.fieldLink RX8 85 "RecordsOfficeModel" "drawers" "[I", Cond.fieldLink RX8 88 "RecordsOfficeModel" "approved" "[I", Cond.fieldLink RX8 91 "RecordsOfficeModel" "carried" "[Z", Cond.fieldLink RX8 94 "RecordsOfficeModel" "numbers" "[I", Cond.fieldLink RX8 97 "RecordsOfficeModel" "links" "[J"]
def wsX8_init : List Cond := .code yX8_init cX8_init 1 none :: ((wsX8_init_r1 ++ wsX8_init_r2) ++ wsX80)
def wsX8_thrown : List Cond := .code yX8_thrown cX8_thrown 1 (some .int) :: ([.fieldLink RX8 100 "RecordsOfficeModel" "thrown" "I"] ++ wsX80)
def wsX8_isIn : List Cond := .code yX8_isIn cX8_isIn 3 (some .boolean) :: ([])
def wsX8_inMonth : List Cond := .code yX8_inMonth cX8_inMonth 3 (some .int) :: ([])
def wsX8_monthOf : List Cond := .code yX8_monthOf cX8_monthOf 3 (some .int) :: ([.methodLink RX8 103 yX8_inMonth, .static yX8_inMonth, .initialized RX8, .code yX8_inMonth cX8_inMonth 3 (some .int)])
def wsX8_begin : List Cond := .code yX8_begin cX8_begin 3 (some .int) :: ([.methodLink RX8 103 yX8_inMonth, .static yX8_inMonth, .initialized RX8, .code yX8_inMonth cX8_inMonth 3 (some .int)])
def wsX8_add : List Cond := .code yX8_add cX8_add 6 (some .int) :: ([.methodLink RX8 107 yX8_monthOf, .static yX8_monthOf, .initialized RX8, .code yX8_monthOf cX8_monthOf 3 (some .int), .methodLink RX8 103 yX8_inMonth, .static yX8_inMonth, .code yX8_inMonth cX8_inMonth 3 (some .int), .methodLink RX8 111 yX8_begin, .static yX8_begin, .code yX8_begin cX8_begin 3 (some .int)])
def wsX8_isTerm : List Cond := .code yX8_isTerm cX8_isTerm 2 (some .boolean) :: ([.methodLink RX8 114 yX8_isIn, .static yX8_isIn, .initialized RX8, .code yX8_isIn cX8_isIn 3 (some .boolean)])
def wsX8_later : List Cond := .code yX8_later cX8_later 4 (some .int) :: ([.constant RX8 118 (120000), .fieldLink RX8 100 "RecordsOfficeModel" "thrown" "I", .methodLink RX8 114 yX8_isIn, .static yX8_isIn, .initialized RX8, .code yX8_isIn cX8_isIn 3 (some .boolean), .methodLink RX8 119 yX8_isTerm, .static yX8_isTerm, .code yX8_isTerm cX8_isTerm 2 (some .boolean), .methodLink RX8 123 yX8_add, .static yX8_add, .code yX8_add cX8_add 6 (some .int), .methodLink RX8 107 yX8_monthOf, .static yX8_monthOf, .code yX8_monthOf cX8_monthOf 3 (some .int), .methodLink RX8 103 yX8_inMonth, .static yX8_inMonth, .code yX8_inMonth cX8_inMonth 3 (some .int), .methodLink RX8 111 yX8_begin, .static yX8_begin, .code yX8_begin cX8_begin 3 (some .int)] ++ wsX80)
def wsX8_fiscalEnd : List Cond := .code yX8_fiscalEnd cX8_fiscalEnd 3 (some .int) :: ([.fieldLink RX8 13 "RecordsOfficeModel" "fiscal" "I", .methodLink RX8 107 yX8_monthOf, .static yX8_monthOf, .initialized RX8, .code yX8_monthOf cX8_monthOf 3 (some .int), .methodLink RX8 103 yX8_inMonth, .static yX8_inMonth, .code yX8_inMonth cX8_inMonth 3 (some .int), .methodLink RX8 111 yX8_begin, .static yX8_begin, .code yX8_begin cX8_begin 3 (some .int)] ++ wsX80)
def wsX8_isDay : List Cond := .code yX8_isDay cX8_isDay 2 (some .boolean) :: ([.constant RX8 118 (120000), .fieldLink RX8 126 "RecordsOfficeModel" "today" "I", .methodLink RX8 114 yX8_isIn, .static yX8_isIn, .initialized RX8, .code yX8_isIn cX8_isIn 3 (some .boolean)] ++ wsX80)
def wsX8_linked : List Cond := .code yX8_linked cX8_linked 6 (some .long) :: ([.constantLong RX8 129 (7046029254386353131)])
def wsX8_linkOf : List Cond := .code yX8_linkOf cX8_linkOf 6 (some .long) :: ([.fieldLink RX8 97 "RecordsOfficeModel" "links" "[J", .fieldLink RX8 94 "RecordsOfficeModel" "numbers" "[I", .fieldLink RX8 135 "RecordsOfficeModel" "records" "I", .fieldLink RX8 51 "RecordsOfficeModel" "digests" "[J", .methodLink RX8 131 yX8_linked, .static yX8_linked, .initialized RX8, .code yX8_linked cX8_linked 6 (some .long), .constantLong RX8 129 (7046029254386353131), .methodLink RX8 114 yX8_isIn, .static yX8_isIn, .code yX8_isIn cX8_isIn 3 (some .boolean)] ++ wsX80)
def wsX8_write : List Cond := .code yX8_write cX8_write 5 none :: ([.fieldLink RX8 94 "RecordsOfficeModel" "numbers" "[I", .fieldLink RX8 138 "RecordsOfficeModel" "acts" "I", .fieldLink RX8 97 "RecordsOfficeModel" "links" "[J", .methodLink RX8 141 yX8_linkOf, .instanceMethod yX8_linkOf, .selects RX8 yX8_linkOf yX8_linkOf, .initialized RX8, .code yX8_linkOf cX8_linkOf 6 (some .long), .fieldLink RX8 135 "RecordsOfficeModel" "records" "I", .fieldLink RX8 51 "RecordsOfficeModel" "digests" "[J", .methodLink RX8 131 yX8_linked, .static yX8_linked, .code yX8_linked cX8_linked 6 (some .long), .constantLong RX8 129 (7046029254386353131), .methodLink RX8 114 yX8_isIn, .static yX8_isIn, .code yX8_isIn cX8_isIn 3 (some .boolean)] ++ wsX80)
def wsX8_hasRoom : List Cond := .code yX8_hasRoom cX8_hasRoom 2 (some .boolean) :: ([.fieldLink RX8 138 "RecordsOfficeModel" "acts" "I"] ++ wsX80)
def wsX8_officer : List Cond := .code yX8_officer cX8_officer 3 none :: ([.fieldLink RX8 100 "RecordsOfficeModel" "thrown" "I", .fieldLink RX8 7 "RecordsOfficeModel" "rights" "[I", .methodLink RX8 114 yX8_isIn, .static yX8_isIn, .initialized RX8, .code yX8_isIn cX8_isIn 3 (some .boolean)] ++ wsX80)
def wsX8_isVersion : List Cond := .code yX8_isVersion cX8_isVersion 8 (some .boolean) :: ([.fieldLink RX8 20 "RecordsOfficeModel" "versions" "[I", .fieldLink RX8 17 "RecordsOfficeModel" "events" "[I", .fieldLink RX8 26 "RecordsOfficeModel" "begins" "[I", .constant RX8 118 (120000), .methodLink RX8 114 yX8_isIn, .static yX8_isIn, .initialized RX8, .code yX8_isIn cX8_isIn 3 (some .boolean), .methodLink RX8 119 yX8_isTerm, .static yX8_isTerm, .code yX8_isTerm cX8_isTerm 2 (some .boolean)] ++ wsX80)
def wsX8_version_r1 : List Cond := [Cond.fieldLink RX8 20 "RecordsOfficeModel" "versions" "[I", Cond.fieldLink RX8 100 "RecordsOfficeModel" "thrown" "I", Cond.fieldLink RX8 17 "RecordsOfficeModel" "events" "[I", Cond.fieldLink RX8 23 "RecordsOfficeModel" "terms" "[I", Cond.fieldLink RX8 26 "RecordsOfficeModel" "begins" "[I", Cond.fieldLink RX8 29 "RecordsOfficeModel" "forAll" "[Z", Cond.methodLink RX8 114 yX8_isIn, Cond.static yX8_isIn, Cond.initialized RX8, Cond.code yX8_isIn cX8_isIn 3 (some .boolean), Cond.methodLink RX8 145 yX8_isVersion, Cond.instanceMethod yX8_isVersion, Cond.selects RX8 yX8_isVersion yX8_isVersion, Cond.code yX8_isVersion cX8_isVersion 8 (some .boolean), Cond.constant RX8 118 (120000), Cond.methodLink RX8 119 yX8_isTerm, Cond.static yX8_isTerm, Cond.code yX8_isTerm cX8_isTerm 2 (some .boolean), Cond.methodLink RX8 149 yX8_hasRoom, Cond.instanceMethod yX8_hasRoom, Cond.selects RX8 yX8_hasRoom yX8_hasRoom, Cond.code yX8_hasRoom cX8_hasRoom 2 (some .boolean), Cond.fieldLink RX8 138 "RecordsOfficeModel" "acts" "I", Cond.methodLink RX8 153 yX8_write]
def wsX8_version_r2 : List Cond := [Cond.instanceMethod yX8_write, Cond.selects RX8 yX8_write yX8_write, Cond.code yX8_write cX8_write 5 none, Cond.fieldLink RX8 94 "RecordsOfficeModel" "numbers" "[I", Cond.fieldLink RX8 97 "RecordsOfficeModel" "links" "[J", Cond.methodLink RX8 141 yX8_linkOf, Cond.instanceMethod yX8_linkOf, Cond.selects RX8 yX8_linkOf yX8_linkOf, Cond.code yX8_linkOf cX8_linkOf 6 (some .long), Cond.fieldLink RX8 135 "RecordsOfficeModel" "records" "I", Cond.fieldLink RX8 51 "RecordsOfficeModel" "digests" "[J", Cond.methodLink RX8 131 yX8_linked, Cond.static yX8_linked, Cond.code yX8_linked cX8_linked 6 (some .long), Cond.constantLong RX8 129 (7046029254386353131)]
def wsX8_version : List Cond := .code yX8_version cX8_version 8 (some .int) :: ((wsX8_version_r1 ++ wsX8_version_r2) ++ wsX80)
def wsX8_fiscal : List Cond := .code yX8_fiscal cX8_fiscal 2 none :: ([.fieldLink RX8 135 "RecordsOfficeModel" "records" "I", .fieldLink RX8 100 "RecordsOfficeModel" "thrown" "I", .fieldLink RX8 13 "RecordsOfficeModel" "fiscal" "I", .methodLink RX8 114 yX8_isIn, .static yX8_isIn, .initialized RX8, .code yX8_isIn cX8_isIn 3 (some .boolean)] ++ wsX80)
def wsX8_open_r1 : List Cond := [Cond.fieldLink RX8 33 "RecordsOfficeModel" "classes" "[I", Cond.fieldLink RX8 20 "RecordsOfficeModel" "versions" "[I", Cond.fieldLink RX8 100 "RecordsOfficeModel" "thrown" "I", Cond.methodLink RX8 114 yX8_isIn, Cond.static yX8_isIn, Cond.initialized RX8, Cond.code yX8_isIn cX8_isIn 3 (some .boolean), Cond.methodLink RX8 149 yX8_hasRoom, Cond.instanceMethod yX8_hasRoom, Cond.selects RX8 yX8_hasRoom yX8_hasRoom, Cond.code yX8_hasRoom cX8_hasRoom 2 (some .boolean), Cond.fieldLink RX8 138 "RecordsOfficeModel" "acts" "I", Cond.methodLink RX8 153 yX8_write, Cond.instanceMethod yX8_write, Cond.selects RX8 yX8_write yX8_write, Cond.code yX8_write cX8_write 5 none, Cond.fieldLink RX8 94 "RecordsOfficeModel" "numbers" "[I", Cond.fieldLink RX8 97 "RecordsOfficeModel" "links" "[J", Cond.methodLink RX8 141 yX8_linkOf, Cond.instanceMethod yX8_linkOf, Cond.selects RX8 yX8_linkOf yX8_linkOf, Cond.code yX8_linkOf cX8_linkOf 6 (some .long), Cond.fieldLink RX8 135 "RecordsOfficeModel" "records" "I", Cond.fieldLink RX8 51 "RecordsOfficeModel" "digests" "[J"]
def wsX8_open_r2 : List Cond := [Cond.methodLink RX8 131 yX8_linked, Cond.static yX8_linked, Cond.code yX8_linked cX8_linked 6 (some .long), Cond.constantLong RX8 129 (7046029254386353131)]
def wsX8_open : List Cond := .code yX8_open cX8_open 4 none :: ((wsX8_open_r1 ++ wsX8_open_r2) ++ wsX80)
def wsX8_noFolder : List Cond := .code yX8_noFolder cX8_noFolder 2 (some .boolean) :: ([.fieldLink RX8 33 "RecordsOfficeModel" "classes" "[I", .methodLink RX8 114 yX8_isIn, .static yX8_isIn, .initialized RX8, .code yX8_isIn cX8_isIn 3 (some .boolean)] ++ wsX80)
def wsX8_close_r1 : List Cond := [Cond.fieldLink RX8 36 "RecordsOfficeModel" "closed" "[I", Cond.fieldLink RX8 100 "RecordsOfficeModel" "thrown" "I", Cond.fieldLink RX8 126 "RecordsOfficeModel" "today" "I", Cond.methodLink RX8 157 yX8_noFolder, Cond.instanceMethod yX8_noFolder, Cond.selects RX8 yX8_noFolder yX8_noFolder, Cond.initialized RX8, Cond.code yX8_noFolder cX8_noFolder 2 (some .boolean), Cond.fieldLink RX8 33 "RecordsOfficeModel" "classes" "[I", Cond.methodLink RX8 114 yX8_isIn, Cond.static yX8_isIn, Cond.code yX8_isIn cX8_isIn 3 (some .boolean), Cond.methodLink RX8 160 yX8_isDay, Cond.instanceMethod yX8_isDay, Cond.selects RX8 yX8_isDay yX8_isDay, Cond.code yX8_isDay cX8_isDay 2 (some .boolean), Cond.constant RX8 118 (120000), Cond.methodLink RX8 149 yX8_hasRoom, Cond.instanceMethod yX8_hasRoom, Cond.selects RX8 yX8_hasRoom yX8_hasRoom, Cond.code yX8_hasRoom cX8_hasRoom 2 (some .boolean), Cond.fieldLink RX8 138 "RecordsOfficeModel" "acts" "I", Cond.methodLink RX8 153 yX8_write, Cond.instanceMethod yX8_write]
def wsX8_close_r2 : List Cond := [Cond.selects RX8 yX8_write yX8_write, Cond.code yX8_write cX8_write 5 none, Cond.fieldLink RX8 94 "RecordsOfficeModel" "numbers" "[I", Cond.fieldLink RX8 97 "RecordsOfficeModel" "links" "[J", Cond.methodLink RX8 141 yX8_linkOf, Cond.instanceMethod yX8_linkOf, Cond.selects RX8 yX8_linkOf yX8_linkOf, Cond.code yX8_linkOf cX8_linkOf 6 (some .long), Cond.fieldLink RX8 135 "RecordsOfficeModel" "records" "I", Cond.fieldLink RX8 51 "RecordsOfficeModel" "digests" "[J", Cond.methodLink RX8 131 yX8_linked, Cond.static yX8_linked, Cond.code yX8_linked cX8_linked 6 (some .long), Cond.constantLong RX8 129 (7046029254386353131)]
def wsX8_close : List Cond := .code yX8_close cX8_close 3 none :: ((wsX8_close_r1 ++ wsX8_close_r2) ++ wsX80)
def wsX8_left_r1 : List Cond := [Cond.fieldLink RX8 39 "RecordsOfficeModel" "gone" "[I", Cond.fieldLink RX8 100 "RecordsOfficeModel" "thrown" "I", Cond.fieldLink RX8 126 "RecordsOfficeModel" "today" "I", Cond.methodLink RX8 157 yX8_noFolder, Cond.instanceMethod yX8_noFolder, Cond.selects RX8 yX8_noFolder yX8_noFolder, Cond.initialized RX8, Cond.code yX8_noFolder cX8_noFolder 2 (some .boolean), Cond.fieldLink RX8 33 "RecordsOfficeModel" "classes" "[I", Cond.methodLink RX8 114 yX8_isIn, Cond.static yX8_isIn, Cond.code yX8_isIn cX8_isIn 3 (some .boolean), Cond.methodLink RX8 160 yX8_isDay, Cond.instanceMethod yX8_isDay, Cond.selects RX8 yX8_isDay yX8_isDay, Cond.code yX8_isDay cX8_isDay 2 (some .boolean), Cond.constant RX8 118 (120000), Cond.methodLink RX8 149 yX8_hasRoom, Cond.instanceMethod yX8_hasRoom, Cond.selects RX8 yX8_hasRoom yX8_hasRoom, Cond.code yX8_hasRoom cX8_hasRoom 2 (some .boolean), Cond.fieldLink RX8 138 "RecordsOfficeModel" "acts" "I", Cond.methodLink RX8 153 yX8_write, Cond.instanceMethod yX8_write]
def wsX8_left_r2 : List Cond := [Cond.selects RX8 yX8_write yX8_write, Cond.code yX8_write cX8_write 5 none, Cond.fieldLink RX8 94 "RecordsOfficeModel" "numbers" "[I", Cond.fieldLink RX8 97 "RecordsOfficeModel" "links" "[J", Cond.methodLink RX8 141 yX8_linkOf, Cond.instanceMethod yX8_linkOf, Cond.selects RX8 yX8_linkOf yX8_linkOf, Cond.code yX8_linkOf cX8_linkOf 6 (some .long), Cond.fieldLink RX8 135 "RecordsOfficeModel" "records" "I", Cond.fieldLink RX8 51 "RecordsOfficeModel" "digests" "[J", Cond.methodLink RX8 131 yX8_linked, Cond.static yX8_linked, Cond.code yX8_linked cX8_linked 6 (some .long), Cond.constantLong RX8 129 (7046029254386353131)]
def wsX8_left : List Cond := .code yX8_left cX8_left 3 none :: ((wsX8_left_r1 ++ wsX8_left_r2) ++ wsX80)
def wsX8_file_r1 : List Cond := [Cond.constant RX8 163 (65536), Cond.fieldLink RX8 36 "RecordsOfficeModel" "closed" "[I", Cond.fieldLink RX8 135 "RecordsOfficeModel" "records" "I", Cond.fieldLink RX8 100 "RecordsOfficeModel" "thrown" "I", Cond.fieldLink RX8 42 "RecordsOfficeModel" "folders" "[I", Cond.fieldLink RX8 45 "RecordsOfficeModel" "days" "[I", Cond.fieldLink RX8 48 "RecordsOfficeModel" "sizes" "[I", Cond.fieldLink RX8 51 "RecordsOfficeModel" "digests" "[J", Cond.fieldLink RX8 55 "RecordsOfficeModel" "keys" "[I", Cond.fieldLink RX8 126 "RecordsOfficeModel" "today" "I", Cond.methodLink RX8 114 yX8_isIn, Cond.static yX8_isIn, Cond.initialized RX8, Cond.code yX8_isIn cX8_isIn 3 (some .boolean), Cond.methodLink RX8 160 yX8_isDay, Cond.instanceMethod yX8_isDay, Cond.selects RX8 yX8_isDay yX8_isDay, Cond.code yX8_isDay cX8_isDay 2 (some .boolean), Cond.constant RX8 118 (120000), Cond.methodLink RX8 157 yX8_noFolder, Cond.instanceMethod yX8_noFolder, Cond.selects RX8 yX8_noFolder yX8_noFolder, Cond.code yX8_noFolder cX8_noFolder 2 (some .boolean), Cond.fieldLink RX8 33 "RecordsOfficeModel" "classes" "[I"]
def wsX8_file_r2 : List Cond := [Cond.methodLink RX8 149 yX8_hasRoom, Cond.instanceMethod yX8_hasRoom, Cond.selects RX8 yX8_hasRoom yX8_hasRoom, Cond.code yX8_hasRoom cX8_hasRoom 2 (some .boolean), Cond.fieldLink RX8 138 "RecordsOfficeModel" "acts" "I", Cond.methodLink RX8 153 yX8_write, Cond.instanceMethod yX8_write, Cond.selects RX8 yX8_write yX8_write, Cond.code yX8_write cX8_write 5 none, Cond.fieldLink RX8 94 "RecordsOfficeModel" "numbers" "[I", Cond.fieldLink RX8 97 "RecordsOfficeModel" "links" "[J", Cond.methodLink RX8 141 yX8_linkOf, Cond.instanceMethod yX8_linkOf, Cond.selects RX8 yX8_linkOf yX8_linkOf, Cond.code yX8_linkOf cX8_linkOf 6 (some .long), Cond.methodLink RX8 131 yX8_linked, Cond.static yX8_linked, Cond.code yX8_linked cX8_linked 6 (some .long), Cond.constantLong RX8 129 (7046029254386353131)]
def wsX8_file : List Cond := .code yX8_file cX8_file 11 (some .int) :: ((wsX8_file_r1 ++ wsX8_file_r2) ++ wsX80)
def wsX8_noRecord : List Cond := .code yX8_noRecord cX8_noRecord 2 (some .boolean) :: ([.fieldLink RX8 135 "RecordsOfficeModel" "records" "I", .methodLink RX8 114 yX8_isIn, .static yX8_isIn, .initialized RX8, .code yX8_isIn cX8_isIn 3 (some .boolean)] ++ wsX80)
def wsX8_hasKey : List Cond := .code yX8_hasKey cX8_hasKey 3 (some .boolean) :: ([.fieldLink RX8 55 "RecordsOfficeModel" "keys" "[I"] ++ wsX80)
def wsX8_holds : List Cond := .code yX8_holds cX8_holds 7 (some .int) :: ([.fieldLink RX8 64 "RecordsOfficeModel" "holdFolders" "[I", .fieldLink RX8 42 "RecordsOfficeModel" "folders" "[I", .fieldLink RX8 67 "RecordsOfficeModel" "holdClasses" "[I", .fieldLink RX8 33 "RecordsOfficeModel" "classes" "[I", .fieldLink RX8 70 "RecordsOfficeModel" "holdKeys" "[I", .fieldLink RX8 61 "RecordsOfficeModel" "placed" "[Z", .fieldLink RX8 45 "RecordsOfficeModel" "days" "[I", .fieldLink RX8 73 "RecordsOfficeModel" "holdFirsts" "[I", .fieldLink RX8 76 "RecordsOfficeModel" "holdLasts" "[I", .methodLink RX8 164 yX8_hasKey, .instanceMethod yX8_hasKey, .selects RX8 yX8_hasKey yX8_hasKey, .initialized RX8, .code yX8_hasKey cX8_hasKey 3 (some .boolean), .fieldLink RX8 55 "RecordsOfficeModel" "keys" "[I", .methodLink RX8 114 yX8_isIn, .static yX8_isIn, .code yX8_isIn cX8_isIn 3 (some .boolean)] ++ wsX80)
def wsX8_termFor : List Cond := .code yX8_termFor cX8_termFor 6 (some .int) :: ([.fieldLink RX8 20 "RecordsOfficeModel" "versions" "[I", .fieldLink RX8 26 "RecordsOfficeModel" "begins" "[I", .fieldLink RX8 29 "RecordsOfficeModel" "forAll" "[Z", .fieldLink RX8 23 "RecordsOfficeModel" "terms" "[I"] ++ wsX80)
def wsX8_dueOf_r1 : List Cond := [Cond.fieldLink RX8 42 "RecordsOfficeModel" "folders" "[I", Cond.fieldLink RX8 33 "RecordsOfficeModel" "classes" "[I", Cond.fieldLink RX8 17 "RecordsOfficeModel" "events" "[I", Cond.fieldLink RX8 45 "RecordsOfficeModel" "days" "[I", Cond.fieldLink RX8 36 "RecordsOfficeModel" "closed" "[I", Cond.fieldLink RX8 39 "RecordsOfficeModel" "gone" "[I", Cond.methodLink RX8 167 yX8_fiscalEnd, Cond.instanceMethod yX8_fiscalEnd, Cond.selects RX8 yX8_fiscalEnd yX8_fiscalEnd, Cond.initialized RX8, Cond.code yX8_fiscalEnd cX8_fiscalEnd 3 (some .int), Cond.fieldLink RX8 13 "RecordsOfficeModel" "fiscal" "I", Cond.methodLink RX8 107 yX8_monthOf, Cond.static yX8_monthOf, Cond.code yX8_monthOf cX8_monthOf 3 (some .int), Cond.methodLink RX8 103 yX8_inMonth, Cond.static yX8_inMonth, Cond.code yX8_inMonth cX8_inMonth 3 (some .int), Cond.methodLink RX8 111 yX8_begin, Cond.static yX8_begin, Cond.code yX8_begin cX8_begin 3 (some .int), Cond.methodLink RX8 170 yX8_termFor, Cond.instanceMethod yX8_termFor, Cond.selects RX8 yX8_termFor yX8_termFor]
def wsX8_dueOf_r2 : List Cond := [Cond.code yX8_termFor cX8_termFor 6 (some .int), Cond.fieldLink RX8 20 "RecordsOfficeModel" "versions" "[I", Cond.fieldLink RX8 26 "RecordsOfficeModel" "begins" "[I", Cond.fieldLink RX8 29 "RecordsOfficeModel" "forAll" "[Z", Cond.fieldLink RX8 23 "RecordsOfficeModel" "terms" "[I", Cond.methodLink RX8 123 yX8_add, Cond.static yX8_add, Cond.code yX8_add cX8_add 6 (some .int)]
def wsX8_dueOf : List Cond := .code yX8_dueOf cX8_dueOf 5 (some .int) :: ((wsX8_dueOf_r1 ++ wsX8_dueOf_r2) ++ wsX80)
def wsX8_mayGo_r1 : List Cond := [Cond.fieldLink RX8 58 "RecordsOfficeModel" "destroyed" "[Z", Cond.methodLink RX8 173 yX8_dueOf, Cond.instanceMethod yX8_dueOf, Cond.selects RX8 yX8_dueOf yX8_dueOf, Cond.initialized RX8, Cond.code yX8_dueOf cX8_dueOf 5 (some .int), Cond.fieldLink RX8 42 "RecordsOfficeModel" "folders" "[I", Cond.fieldLink RX8 33 "RecordsOfficeModel" "classes" "[I", Cond.fieldLink RX8 17 "RecordsOfficeModel" "events" "[I", Cond.fieldLink RX8 45 "RecordsOfficeModel" "days" "[I", Cond.fieldLink RX8 36 "RecordsOfficeModel" "closed" "[I", Cond.fieldLink RX8 39 "RecordsOfficeModel" "gone" "[I", Cond.methodLink RX8 167 yX8_fiscalEnd, Cond.instanceMethod yX8_fiscalEnd, Cond.selects RX8 yX8_fiscalEnd yX8_fiscalEnd, Cond.code yX8_fiscalEnd cX8_fiscalEnd 3 (some .int), Cond.fieldLink RX8 13 "RecordsOfficeModel" "fiscal" "I", Cond.methodLink RX8 107 yX8_monthOf, Cond.static yX8_monthOf, Cond.code yX8_monthOf cX8_monthOf 3 (some .int), Cond.methodLink RX8 103 yX8_inMonth, Cond.static yX8_inMonth, Cond.code yX8_inMonth cX8_inMonth 3 (some .int), Cond.methodLink RX8 111 yX8_begin]
def wsX8_mayGo_r2 : List Cond := [Cond.static yX8_begin, Cond.code yX8_begin cX8_begin 3 (some .int), Cond.methodLink RX8 170 yX8_termFor, Cond.instanceMethod yX8_termFor, Cond.selects RX8 yX8_termFor yX8_termFor, Cond.code yX8_termFor cX8_termFor 6 (some .int), Cond.fieldLink RX8 20 "RecordsOfficeModel" "versions" "[I", Cond.fieldLink RX8 26 "RecordsOfficeModel" "begins" "[I", Cond.fieldLink RX8 29 "RecordsOfficeModel" "forAll" "[Z", Cond.fieldLink RX8 23 "RecordsOfficeModel" "terms" "[I", Cond.methodLink RX8 123 yX8_add, Cond.static yX8_add, Cond.code yX8_add cX8_add 6 (some .int), Cond.methodLink RX8 176 yX8_holds, Cond.instanceMethod yX8_holds, Cond.selects RX8 yX8_holds yX8_holds, Cond.code yX8_holds cX8_holds 7 (some .int), Cond.fieldLink RX8 64 "RecordsOfficeModel" "holdFolders" "[I", Cond.fieldLink RX8 67 "RecordsOfficeModel" "holdClasses" "[I", Cond.fieldLink RX8 70 "RecordsOfficeModel" "holdKeys" "[I", Cond.fieldLink RX8 61 "RecordsOfficeModel" "placed" "[Z", Cond.fieldLink RX8 73 "RecordsOfficeModel" "holdFirsts" "[I", Cond.fieldLink RX8 76 "RecordsOfficeModel" "holdLasts" "[I", Cond.methodLink RX8 164 yX8_hasKey]
def wsX8_mayGo_r3 : List Cond := [Cond.instanceMethod yX8_hasKey, Cond.selects RX8 yX8_hasKey yX8_hasKey, Cond.code yX8_hasKey cX8_hasKey 3 (some .boolean), Cond.fieldLink RX8 55 "RecordsOfficeModel" "keys" "[I", Cond.methodLink RX8 114 yX8_isIn, Cond.static yX8_isIn, Cond.code yX8_isIn cX8_isIn 3 (some .boolean)]
def wsX8_mayGo : List Cond := .code yX8_mayGo cX8_mayGo 4 (some .boolean) :: ((wsX8_mayGo_r1 ++ (wsX8_mayGo_r2 ++ wsX8_mayGo_r3)) ++ wsX80)
def wsX8_covered_r1 : List Cond := [Cond.fieldLink RX8 100 "RecordsOfficeModel" "thrown" "I", Cond.methodLink RX8 179 yX8_noRecord, Cond.instanceMethod yX8_noRecord, Cond.selects RX8 yX8_noRecord yX8_noRecord, Cond.initialized RX8, Cond.code yX8_noRecord cX8_noRecord 2 (some .boolean), Cond.fieldLink RX8 135 "RecordsOfficeModel" "records" "I", Cond.methodLink RX8 114 yX8_isIn, Cond.static yX8_isIn, Cond.code yX8_isIn cX8_isIn 3 (some .boolean), Cond.methodLink RX8 176 yX8_holds, Cond.instanceMethod yX8_holds, Cond.selects RX8 yX8_holds yX8_holds, Cond.code yX8_holds cX8_holds 7 (some .int), Cond.fieldLink RX8 64 "RecordsOfficeModel" "holdFolders" "[I", Cond.fieldLink RX8 42 "RecordsOfficeModel" "folders" "[I", Cond.fieldLink RX8 67 "RecordsOfficeModel" "holdClasses" "[I", Cond.fieldLink RX8 33 "RecordsOfficeModel" "classes" "[I", Cond.fieldLink RX8 70 "RecordsOfficeModel" "holdKeys" "[I", Cond.fieldLink RX8 61 "RecordsOfficeModel" "placed" "[Z", Cond.fieldLink RX8 45 "RecordsOfficeModel" "days" "[I", Cond.fieldLink RX8 73 "RecordsOfficeModel" "holdFirsts" "[I", Cond.fieldLink RX8 76 "RecordsOfficeModel" "holdLasts" "[I", Cond.methodLink RX8 164 yX8_hasKey]
def wsX8_covered_r2 : List Cond := [Cond.instanceMethod yX8_hasKey, Cond.selects RX8 yX8_hasKey yX8_hasKey, Cond.code yX8_hasKey cX8_hasKey 3 (some .boolean), Cond.fieldLink RX8 55 "RecordsOfficeModel" "keys" "[I"]
def wsX8_covered : List Cond := .code yX8_covered cX8_covered 2 (some .int) :: ((wsX8_covered_r1 ++ wsX8_covered_r2) ++ wsX80)
def wsX8_due_r1 : List Cond := [Cond.fieldLink RX8 100 "RecordsOfficeModel" "thrown" "I", Cond.methodLink RX8 179 yX8_noRecord, Cond.instanceMethod yX8_noRecord, Cond.selects RX8 yX8_noRecord yX8_noRecord, Cond.initialized RX8, Cond.code yX8_noRecord cX8_noRecord 2 (some .boolean), Cond.fieldLink RX8 135 "RecordsOfficeModel" "records" "I", Cond.methodLink RX8 114 yX8_isIn, Cond.static yX8_isIn, Cond.code yX8_isIn cX8_isIn 3 (some .boolean), Cond.methodLink RX8 173 yX8_dueOf, Cond.instanceMethod yX8_dueOf, Cond.selects RX8 yX8_dueOf yX8_dueOf, Cond.code yX8_dueOf cX8_dueOf 5 (some .int), Cond.fieldLink RX8 42 "RecordsOfficeModel" "folders" "[I", Cond.fieldLink RX8 33 "RecordsOfficeModel" "classes" "[I", Cond.fieldLink RX8 17 "RecordsOfficeModel" "events" "[I", Cond.fieldLink RX8 45 "RecordsOfficeModel" "days" "[I", Cond.fieldLink RX8 36 "RecordsOfficeModel" "closed" "[I", Cond.fieldLink RX8 39 "RecordsOfficeModel" "gone" "[I", Cond.methodLink RX8 167 yX8_fiscalEnd, Cond.instanceMethod yX8_fiscalEnd, Cond.selects RX8 yX8_fiscalEnd yX8_fiscalEnd, Cond.code yX8_fiscalEnd cX8_fiscalEnd 3 (some .int)]
def wsX8_due_r2 : List Cond := [Cond.fieldLink RX8 13 "RecordsOfficeModel" "fiscal" "I", Cond.methodLink RX8 107 yX8_monthOf, Cond.static yX8_monthOf, Cond.code yX8_monthOf cX8_monthOf 3 (some .int), Cond.methodLink RX8 103 yX8_inMonth, Cond.static yX8_inMonth, Cond.code yX8_inMonth cX8_inMonth 3 (some .int), Cond.methodLink RX8 111 yX8_begin, Cond.static yX8_begin, Cond.code yX8_begin cX8_begin 3 (some .int), Cond.methodLink RX8 170 yX8_termFor, Cond.instanceMethod yX8_termFor, Cond.selects RX8 yX8_termFor yX8_termFor, Cond.code yX8_termFor cX8_termFor 6 (some .int), Cond.fieldLink RX8 20 "RecordsOfficeModel" "versions" "[I", Cond.fieldLink RX8 26 "RecordsOfficeModel" "begins" "[I", Cond.fieldLink RX8 29 "RecordsOfficeModel" "forAll" "[Z", Cond.fieldLink RX8 23 "RecordsOfficeModel" "terms" "[I", Cond.methodLink RX8 123 yX8_add, Cond.static yX8_add, Cond.code yX8_add cX8_add 6 (some .int)]
def wsX8_due : List Cond := .code yX8_due cX8_due 2 (some .int) :: ((wsX8_due_r1 ++ wsX8_due_r2) ++ wsX80)
def wsX8_keyCount : List Cond := .code yX8_keyCount cX8_keyCount 4 (some .int) :: ([.methodLink RX8 164 yX8_hasKey, .instanceMethod yX8_hasKey, .selects RX8 yX8_hasKey yX8_hasKey, .initialized RX8, .code yX8_hasKey cX8_hasKey 3 (some .boolean), .fieldLink RX8 55 "RecordsOfficeModel" "keys" "[I"] ++ wsX80)
def wsX8_record : List Cond := .code yX8_record cX8_record 3 (some .int) :: ([.fieldLink RX8 100 "RecordsOfficeModel" "thrown" "I", .fieldLink RX8 42 "RecordsOfficeModel" "folders" "[I", .fieldLink RX8 45 "RecordsOfficeModel" "days" "[I", .fieldLink RX8 48 "RecordsOfficeModel" "sizes" "[I", .fieldLink RX8 58 "RecordsOfficeModel" "destroyed" "[Z", .methodLink RX8 179 yX8_noRecord, .instanceMethod yX8_noRecord, .selects RX8 yX8_noRecord yX8_noRecord, .initialized RX8, .code yX8_noRecord cX8_noRecord 2 (some .boolean), .fieldLink RX8 135 "RecordsOfficeModel" "records" "I", .methodLink RX8 114 yX8_isIn, .static yX8_isIn, .code yX8_isIn cX8_isIn 3 (some .boolean), .methodLink RX8 182 yX8_keyCount, .instanceMethod yX8_keyCount, .selects RX8 yX8_keyCount yX8_keyCount, .code yX8_keyCount cX8_keyCount 4 (some .int), .methodLink RX8 164 yX8_hasKey, .instanceMethod yX8_hasKey, .selects RX8 yX8_hasKey yX8_hasKey, .code yX8_hasKey cX8_hasKey 3 (some .boolean), .fieldLink RX8 55 "RecordsOfficeModel" "keys" "[I"] ++ wsX80)
def wsX8_read : List Cond := .code yX8_read cX8_read 2 (some .long) :: ([.fieldLink RX8 58 "RecordsOfficeModel" "destroyed" "[Z", .fieldLink RX8 100 "RecordsOfficeModel" "thrown" "I", .fieldLink RX8 51 "RecordsOfficeModel" "digests" "[J", .methodLink RX8 179 yX8_noRecord, .instanceMethod yX8_noRecord, .selects RX8 yX8_noRecord yX8_noRecord, .initialized RX8, .code yX8_noRecord cX8_noRecord 2 (some .boolean), .fieldLink RX8 135 "RecordsOfficeModel" "records" "I", .methodLink RX8 114 yX8_isIn, .static yX8_isIn, .code yX8_isIn cX8_isIn 3 (some .boolean)] ++ wsX80)
def wsX8_find : List Cond := .code yX8_find cX8_find 7 (some .int) :: ([.fieldLink RX8 100 "RecordsOfficeModel" "thrown" "I", .fieldLink RX8 135 "RecordsOfficeModel" "records" "I", .fieldLink RX8 58 "RecordsOfficeModel" "destroyed" "[Z", .fieldLink RX8 45 "RecordsOfficeModel" "days" "[I", .methodLink RX8 114 yX8_isIn, .static yX8_isIn, .initialized RX8, .code yX8_isIn cX8_isIn 3 (some .boolean), .methodLink RX8 164 yX8_hasKey, .instanceMethod yX8_hasKey, .selects RX8 yX8_hasKey yX8_hasKey, .code yX8_hasKey cX8_hasKey 3 (some .boolean), .fieldLink RX8 55 "RecordsOfficeModel" "keys" "[I"] ++ wsX80)
def wsX8_hold_r1 : List Cond := [Cond.constant RX8 118 (120000), Cond.fieldLink RX8 61 "RecordsOfficeModel" "placed" "[Z", Cond.fieldLink RX8 100 "RecordsOfficeModel" "thrown" "I", Cond.fieldLink RX8 64 "RecordsOfficeModel" "holdFolders" "[I", Cond.fieldLink RX8 67 "RecordsOfficeModel" "holdClasses" "[I", Cond.fieldLink RX8 70 "RecordsOfficeModel" "holdKeys" "[I", Cond.fieldLink RX8 73 "RecordsOfficeModel" "holdFirsts" "[I", Cond.fieldLink RX8 76 "RecordsOfficeModel" "holdLasts" "[I", Cond.methodLink RX8 114 yX8_isIn, Cond.static yX8_isIn, Cond.initialized RX8, Cond.code yX8_isIn cX8_isIn 3 (some .boolean), Cond.methodLink RX8 149 yX8_hasRoom, Cond.instanceMethod yX8_hasRoom, Cond.selects RX8 yX8_hasRoom yX8_hasRoom, Cond.code yX8_hasRoom cX8_hasRoom 2 (some .boolean), Cond.fieldLink RX8 138 "RecordsOfficeModel" "acts" "I", Cond.methodLink RX8 153 yX8_write, Cond.instanceMethod yX8_write, Cond.selects RX8 yX8_write yX8_write, Cond.code yX8_write cX8_write 5 none, Cond.fieldLink RX8 94 "RecordsOfficeModel" "numbers" "[I", Cond.fieldLink RX8 97 "RecordsOfficeModel" "links" "[J", Cond.methodLink RX8 141 yX8_linkOf]
def wsX8_hold_r2 : List Cond := [Cond.instanceMethod yX8_linkOf, Cond.selects RX8 yX8_linkOf yX8_linkOf, Cond.code yX8_linkOf cX8_linkOf 6 (some .long), Cond.fieldLink RX8 135 "RecordsOfficeModel" "records" "I", Cond.fieldLink RX8 51 "RecordsOfficeModel" "digests" "[J", Cond.methodLink RX8 131 yX8_linked, Cond.static yX8_linked, Cond.code yX8_linked cX8_linked 6 (some .long), Cond.constantLong RX8 129 (7046029254386353131)]
def wsX8_hold : List Cond := .code yX8_hold cX8_hold 9 none :: ((wsX8_hold_r1 ++ wsX8_hold_r2) ++ wsX80)
def wsX8_lift_r1 : List Cond := [Cond.fieldLink RX8 61 "RecordsOfficeModel" "placed" "[Z", Cond.fieldLink RX8 100 "RecordsOfficeModel" "thrown" "I", Cond.methodLink RX8 114 yX8_isIn, Cond.static yX8_isIn, Cond.initialized RX8, Cond.code yX8_isIn cX8_isIn 3 (some .boolean), Cond.methodLink RX8 149 yX8_hasRoom, Cond.instanceMethod yX8_hasRoom, Cond.selects RX8 yX8_hasRoom yX8_hasRoom, Cond.code yX8_hasRoom cX8_hasRoom 2 (some .boolean), Cond.fieldLink RX8 138 "RecordsOfficeModel" "acts" "I", Cond.methodLink RX8 153 yX8_write, Cond.instanceMethod yX8_write, Cond.selects RX8 yX8_write yX8_write, Cond.code yX8_write cX8_write 5 none, Cond.fieldLink RX8 94 "RecordsOfficeModel" "numbers" "[I", Cond.fieldLink RX8 97 "RecordsOfficeModel" "links" "[J", Cond.methodLink RX8 141 yX8_linkOf, Cond.instanceMethod yX8_linkOf, Cond.selects RX8 yX8_linkOf yX8_linkOf, Cond.code yX8_linkOf cX8_linkOf 6 (some .long), Cond.fieldLink RX8 135 "RecordsOfficeModel" "records" "I", Cond.fieldLink RX8 51 "RecordsOfficeModel" "digests" "[J", Cond.methodLink RX8 131 yX8_linked]
def wsX8_lift_r2 : List Cond := [Cond.static yX8_linked, Cond.code yX8_linked cX8_linked 6 (some .long), Cond.constantLong RX8 129 (7046029254386353131)]
def wsX8_lift : List Cond := .code yX8_lift cX8_lift 2 none :: ((wsX8_lift_r1 ++ wsX8_lift_r2) ++ wsX80)
def wsX8_noOfficer : List Cond := .code yX8_noOfficer cX8_noOfficer 2 (some .boolean) :: ([.methodLink RX8 114 yX8_isIn, .static yX8_isIn, .initialized RX8, .code yX8_isIn cX8_isIn 3 (some .boolean)])
def wsX8_noList : List Cond := .code yX8_noList cX8_noList 2 (some .boolean) :: ([.fieldLink RX8 185 "RecordsOfficeModel" "lists" "I", .methodLink RX8 114 yX8_isIn, .static yX8_isIn, .initialized RX8, .code yX8_isIn cX8_isIn 3 (some .boolean)] ++ wsX80)
def wsX8_hasRight : List Cond := .code yX8_hasRight cX8_hasRight 3 (some .boolean) :: ([.fieldLink RX8 7 "RecordsOfficeModel" "rights" "[I"] ++ wsX80)
def wsX8_draw_r1 : List Cond := [Cond.fieldLink RX8 135 "RecordsOfficeModel" "records" "I", Cond.fieldLink RX8 185 "RecordsOfficeModel" "lists" "I", Cond.fieldLink RX8 100 "RecordsOfficeModel" "thrown" "I", Cond.fieldLink RX8 85 "RecordsOfficeModel" "drawers" "[I", Cond.fieldLink RX8 79 "RecordsOfficeModel" "listed" "[I", Cond.fieldLink RX8 82 "RecordsOfficeModel" "lengths" "[I", Cond.fieldLink RX8 126 "RecordsOfficeModel" "today" "I", Cond.methodLink RX8 188 yX8_mayGo, Cond.instanceMethod yX8_mayGo, Cond.selects RX8 yX8_mayGo yX8_mayGo, Cond.initialized RX8, Cond.code yX8_mayGo cX8_mayGo 4 (some .boolean), Cond.fieldLink RX8 58 "RecordsOfficeModel" "destroyed" "[Z", Cond.methodLink RX8 173 yX8_dueOf, Cond.instanceMethod yX8_dueOf, Cond.selects RX8 yX8_dueOf yX8_dueOf, Cond.code yX8_dueOf cX8_dueOf 5 (some .int), Cond.fieldLink RX8 42 "RecordsOfficeModel" "folders" "[I", Cond.fieldLink RX8 33 "RecordsOfficeModel" "classes" "[I", Cond.fieldLink RX8 17 "RecordsOfficeModel" "events" "[I", Cond.fieldLink RX8 45 "RecordsOfficeModel" "days" "[I", Cond.fieldLink RX8 36 "RecordsOfficeModel" "closed" "[I", Cond.fieldLink RX8 39 "RecordsOfficeModel" "gone" "[I", Cond.methodLink RX8 167 yX8_fiscalEnd]
def wsX8_draw_r2 : List Cond := [Cond.instanceMethod yX8_fiscalEnd, Cond.selects RX8 yX8_fiscalEnd yX8_fiscalEnd, Cond.code yX8_fiscalEnd cX8_fiscalEnd 3 (some .int), Cond.fieldLink RX8 13 "RecordsOfficeModel" "fiscal" "I", Cond.methodLink RX8 107 yX8_monthOf, Cond.static yX8_monthOf, Cond.code yX8_monthOf cX8_monthOf 3 (some .int), Cond.methodLink RX8 103 yX8_inMonth, Cond.static yX8_inMonth, Cond.code yX8_inMonth cX8_inMonth 3 (some .int), Cond.methodLink RX8 111 yX8_begin, Cond.static yX8_begin, Cond.code yX8_begin cX8_begin 3 (some .int), Cond.methodLink RX8 170 yX8_termFor, Cond.instanceMethod yX8_termFor, Cond.selects RX8 yX8_termFor yX8_termFor, Cond.code yX8_termFor cX8_termFor 6 (some .int), Cond.fieldLink RX8 20 "RecordsOfficeModel" "versions" "[I", Cond.fieldLink RX8 26 "RecordsOfficeModel" "begins" "[I", Cond.fieldLink RX8 29 "RecordsOfficeModel" "forAll" "[Z", Cond.fieldLink RX8 23 "RecordsOfficeModel" "terms" "[I", Cond.methodLink RX8 123 yX8_add, Cond.static yX8_add, Cond.code yX8_add cX8_add 6 (some .int)]
def wsX8_draw_r3 : List Cond := [Cond.methodLink RX8 176 yX8_holds, Cond.instanceMethod yX8_holds, Cond.selects RX8 yX8_holds yX8_holds, Cond.code yX8_holds cX8_holds 7 (some .int), Cond.fieldLink RX8 64 "RecordsOfficeModel" "holdFolders" "[I", Cond.fieldLink RX8 67 "RecordsOfficeModel" "holdClasses" "[I", Cond.fieldLink RX8 70 "RecordsOfficeModel" "holdKeys" "[I", Cond.fieldLink RX8 61 "RecordsOfficeModel" "placed" "[Z", Cond.fieldLink RX8 73 "RecordsOfficeModel" "holdFirsts" "[I", Cond.fieldLink RX8 76 "RecordsOfficeModel" "holdLasts" "[I", Cond.methodLink RX8 164 yX8_hasKey, Cond.instanceMethod yX8_hasKey, Cond.selects RX8 yX8_hasKey yX8_hasKey, Cond.code yX8_hasKey cX8_hasKey 3 (some .boolean), Cond.fieldLink RX8 55 "RecordsOfficeModel" "keys" "[I", Cond.methodLink RX8 114 yX8_isIn, Cond.static yX8_isIn, Cond.code yX8_isIn cX8_isIn 3 (some .boolean), Cond.methodLink RX8 191 yX8_noOfficer, Cond.instanceMethod yX8_noOfficer, Cond.selects RX8 yX8_noOfficer yX8_noOfficer, Cond.code yX8_noOfficer cX8_noOfficer 2 (some .boolean), Cond.methodLink RX8 160 yX8_isDay, Cond.instanceMethod yX8_isDay]
def wsX8_draw_r4 : List Cond := [Cond.selects RX8 yX8_isDay yX8_isDay, Cond.code yX8_isDay cX8_isDay 2 (some .boolean), Cond.constant RX8 118 (120000), Cond.methodLink RX8 194 yX8_hasRight, Cond.instanceMethod yX8_hasRight, Cond.selects RX8 yX8_hasRight yX8_hasRight, Cond.code yX8_hasRight cX8_hasRight 3 (some .boolean), Cond.fieldLink RX8 7 "RecordsOfficeModel" "rights" "[I", Cond.methodLink RX8 149 yX8_hasRoom, Cond.instanceMethod yX8_hasRoom, Cond.selects RX8 yX8_hasRoom yX8_hasRoom, Cond.code yX8_hasRoom cX8_hasRoom 2 (some .boolean), Cond.fieldLink RX8 138 "RecordsOfficeModel" "acts" "I", Cond.methodLink RX8 153 yX8_write, Cond.instanceMethod yX8_write, Cond.selects RX8 yX8_write yX8_write, Cond.code yX8_write cX8_write 5 none, Cond.fieldLink RX8 94 "RecordsOfficeModel" "numbers" "[I", Cond.fieldLink RX8 97 "RecordsOfficeModel" "links" "[J", Cond.methodLink RX8 141 yX8_linkOf, Cond.instanceMethod yX8_linkOf, Cond.selects RX8 yX8_linkOf yX8_linkOf, Cond.code yX8_linkOf cX8_linkOf 6 (some .long), Cond.fieldLink RX8 51 "RecordsOfficeModel" "digests" "[J"]
def wsX8_draw_r5 : List Cond := [Cond.methodLink RX8 131 yX8_linked, Cond.static yX8_linked, Cond.code yX8_linked cX8_linked 6 (some .long), Cond.constantLong RX8 129 (7046029254386353131)]
def wsX8_draw : List Cond := .code yX8_draw cX8_draw 6 (some .int) :: ((wsX8_draw_r1 ++ (wsX8_draw_r2 ++ (wsX8_draw_r3 ++ (wsX8_draw_r4 ++ wsX8_draw_r5)))) ++ wsX80)
def wsX8_listed : List Cond := .code yX8_listed cX8_listed 3 (some .int) :: ([.fieldLink RX8 100 "RecordsOfficeModel" "thrown" "I", .fieldLink RX8 82 "RecordsOfficeModel" "lengths" "[I", .fieldLink RX8 79 "RecordsOfficeModel" "listed" "[I", .methodLink RX8 197 yX8_noList, .instanceMethod yX8_noList, .selects RX8 yX8_noList yX8_noList, .initialized RX8, .code yX8_noList cX8_noList 2 (some .boolean), .fieldLink RX8 185 "RecordsOfficeModel" "lists" "I", .methodLink RX8 114 yX8_isIn, .static yX8_isIn, .code yX8_isIn cX8_isIn 3 (some .boolean)] ++ wsX80)
def wsX8_bits : List Cond := .code yX8_bits cX8_bits 3 (some .int) :: ([])
def wsX8_approve_r1 : List Cond := [Cond.fieldLink RX8 91 "RecordsOfficeModel" "carried" "[Z", Cond.fieldLink RX8 85 "RecordsOfficeModel" "drawers" "[I", Cond.fieldLink RX8 88 "RecordsOfficeModel" "approved" "[I", Cond.fieldLink RX8 100 "RecordsOfficeModel" "thrown" "I", Cond.methodLink RX8 197 yX8_noList, Cond.instanceMethod yX8_noList, Cond.selects RX8 yX8_noList yX8_noList, Cond.initialized RX8, Cond.code yX8_noList cX8_noList 2 (some .boolean), Cond.fieldLink RX8 185 "RecordsOfficeModel" "lists" "I", Cond.methodLink RX8 114 yX8_isIn, Cond.static yX8_isIn, Cond.code yX8_isIn cX8_isIn 3 (some .boolean), Cond.methodLink RX8 191 yX8_noOfficer, Cond.instanceMethod yX8_noOfficer, Cond.selects RX8 yX8_noOfficer yX8_noOfficer, Cond.code yX8_noOfficer cX8_noOfficer 2 (some .boolean), Cond.methodLink RX8 194 yX8_hasRight, Cond.instanceMethod yX8_hasRight, Cond.selects RX8 yX8_hasRight yX8_hasRight, Cond.code yX8_hasRight cX8_hasRight 3 (some .boolean), Cond.fieldLink RX8 7 "RecordsOfficeModel" "rights" "[I", Cond.methodLink RX8 149 yX8_hasRoom, Cond.instanceMethod yX8_hasRoom]
def wsX8_approve_r2 : List Cond := [Cond.selects RX8 yX8_hasRoom yX8_hasRoom, Cond.code yX8_hasRoom cX8_hasRoom 2 (some .boolean), Cond.fieldLink RX8 138 "RecordsOfficeModel" "acts" "I", Cond.methodLink RX8 153 yX8_write, Cond.instanceMethod yX8_write, Cond.selects RX8 yX8_write yX8_write, Cond.code yX8_write cX8_write 5 none, Cond.fieldLink RX8 94 "RecordsOfficeModel" "numbers" "[I", Cond.fieldLink RX8 97 "RecordsOfficeModel" "links" "[J", Cond.methodLink RX8 141 yX8_linkOf, Cond.instanceMethod yX8_linkOf, Cond.selects RX8 yX8_linkOf yX8_linkOf, Cond.code yX8_linkOf cX8_linkOf 6 (some .long), Cond.fieldLink RX8 135 "RecordsOfficeModel" "records" "I", Cond.fieldLink RX8 51 "RecordsOfficeModel" "digests" "[J", Cond.methodLink RX8 131 yX8_linked, Cond.static yX8_linked, Cond.code yX8_linked cX8_linked 6 (some .long), Cond.constantLong RX8 129 (7046029254386353131), Cond.methodLink RX8 200 yX8_bits, Cond.static yX8_bits, Cond.code yX8_bits cX8_bits 3 (some .int)]
def wsX8_approve : List Cond := .code yX8_approve cX8_approve 3 (some .int) :: ((wsX8_approve_r1 ++ wsX8_approve_r2) ++ wsX80)
def wsX8_placeOn : List Cond := .code yX8_placeOn cX8_placeOn 5 (some .int) :: ([.fieldLink RX8 82 "RecordsOfficeModel" "lengths" "[I", .fieldLink RX8 79 "RecordsOfficeModel" "listed" "[I"] ++ wsX80)
def wsX8_strike_r1 : List Cond := [Cond.fieldLink RX8 91 "RecordsOfficeModel" "carried" "[Z", Cond.fieldLink RX8 100 "RecordsOfficeModel" "thrown" "I", Cond.fieldLink RX8 82 "RecordsOfficeModel" "lengths" "[I", Cond.fieldLink RX8 79 "RecordsOfficeModel" "listed" "[I", Cond.methodLink RX8 197 yX8_noList, Cond.instanceMethod yX8_noList, Cond.selects RX8 yX8_noList yX8_noList, Cond.initialized RX8, Cond.code yX8_noList cX8_noList 2 (some .boolean), Cond.fieldLink RX8 185 "RecordsOfficeModel" "lists" "I", Cond.methodLink RX8 114 yX8_isIn, Cond.static yX8_isIn, Cond.code yX8_isIn cX8_isIn 3 (some .boolean), Cond.methodLink RX8 203 yX8_placeOn, Cond.instanceMethod yX8_placeOn, Cond.selects RX8 yX8_placeOn yX8_placeOn, Cond.code yX8_placeOn cX8_placeOn 5 (some .int), Cond.methodLink RX8 149 yX8_hasRoom, Cond.instanceMethod yX8_hasRoom, Cond.selects RX8 yX8_hasRoom yX8_hasRoom, Cond.code yX8_hasRoom cX8_hasRoom 2 (some .boolean), Cond.fieldLink RX8 138 "RecordsOfficeModel" "acts" "I", Cond.methodLink RX8 153 yX8_write, Cond.instanceMethod yX8_write]
def wsX8_strike_r2 : List Cond := [Cond.selects RX8 yX8_write yX8_write, Cond.code yX8_write cX8_write 5 none, Cond.fieldLink RX8 94 "RecordsOfficeModel" "numbers" "[I", Cond.fieldLink RX8 97 "RecordsOfficeModel" "links" "[J", Cond.methodLink RX8 141 yX8_linkOf, Cond.instanceMethod yX8_linkOf, Cond.selects RX8 yX8_linkOf yX8_linkOf, Cond.code yX8_linkOf cX8_linkOf 6 (some .long), Cond.fieldLink RX8 135 "RecordsOfficeModel" "records" "I", Cond.fieldLink RX8 51 "RecordsOfficeModel" "digests" "[J", Cond.methodLink RX8 131 yX8_linked, Cond.static yX8_linked, Cond.code yX8_linked cX8_linked 6 (some .long), Cond.constantLong RX8 129 (7046029254386353131)]
def wsX8_strike : List Cond := .code yX8_strike cX8_strike 5 (some .int) :: ((wsX8_strike_r1 ++ wsX8_strike_r2) ++ wsX80)
def wsX8_carry_r1 : List Cond := [Cond.fieldLink RX8 82 "RecordsOfficeModel" "lengths" "[I", Cond.fieldLink RX8 79 "RecordsOfficeModel" "listed" "[I", Cond.fieldLink RX8 91 "RecordsOfficeModel" "carried" "[Z", Cond.fieldLink RX8 88 "RecordsOfficeModel" "approved" "[I", Cond.fieldLink RX8 100 "RecordsOfficeModel" "thrown" "I", Cond.fieldLink RX8 126 "RecordsOfficeModel" "today" "I", Cond.fieldLink RX8 58 "RecordsOfficeModel" "destroyed" "[Z", Cond.methodLink RX8 197 yX8_noList, Cond.instanceMethod yX8_noList, Cond.selects RX8 yX8_noList yX8_noList, Cond.initialized RX8, Cond.code yX8_noList cX8_noList 2 (some .boolean), Cond.fieldLink RX8 185 "RecordsOfficeModel" "lists" "I", Cond.methodLink RX8 114 yX8_isIn, Cond.static yX8_isIn, Cond.code yX8_isIn cX8_isIn 3 (some .boolean), Cond.methodLink RX8 191 yX8_noOfficer, Cond.instanceMethod yX8_noOfficer, Cond.selects RX8 yX8_noOfficer yX8_noOfficer, Cond.code yX8_noOfficer cX8_noOfficer 2 (some .boolean), Cond.methodLink RX8 188 yX8_mayGo, Cond.instanceMethod yX8_mayGo, Cond.selects RX8 yX8_mayGo yX8_mayGo, Cond.code yX8_mayGo cX8_mayGo 4 (some .boolean)]
def wsX8_carry_r2 : List Cond := [Cond.methodLink RX8 173 yX8_dueOf, Cond.instanceMethod yX8_dueOf, Cond.selects RX8 yX8_dueOf yX8_dueOf, Cond.code yX8_dueOf cX8_dueOf 5 (some .int), Cond.fieldLink RX8 42 "RecordsOfficeModel" "folders" "[I", Cond.fieldLink RX8 33 "RecordsOfficeModel" "classes" "[I", Cond.fieldLink RX8 17 "RecordsOfficeModel" "events" "[I", Cond.fieldLink RX8 45 "RecordsOfficeModel" "days" "[I", Cond.fieldLink RX8 36 "RecordsOfficeModel" "closed" "[I", Cond.fieldLink RX8 39 "RecordsOfficeModel" "gone" "[I", Cond.methodLink RX8 167 yX8_fiscalEnd, Cond.instanceMethod yX8_fiscalEnd, Cond.selects RX8 yX8_fiscalEnd yX8_fiscalEnd, Cond.code yX8_fiscalEnd cX8_fiscalEnd 3 (some .int), Cond.fieldLink RX8 13 "RecordsOfficeModel" "fiscal" "I", Cond.methodLink RX8 107 yX8_monthOf, Cond.static yX8_monthOf, Cond.code yX8_monthOf cX8_monthOf 3 (some .int), Cond.methodLink RX8 103 yX8_inMonth, Cond.static yX8_inMonth, Cond.code yX8_inMonth cX8_inMonth 3 (some .int), Cond.methodLink RX8 111 yX8_begin, Cond.static yX8_begin, Cond.code yX8_begin cX8_begin 3 (some .int)]
def wsX8_carry_r3 : List Cond := [Cond.methodLink RX8 170 yX8_termFor, Cond.instanceMethod yX8_termFor, Cond.selects RX8 yX8_termFor yX8_termFor, Cond.code yX8_termFor cX8_termFor 6 (some .int), Cond.fieldLink RX8 20 "RecordsOfficeModel" "versions" "[I", Cond.fieldLink RX8 26 "RecordsOfficeModel" "begins" "[I", Cond.fieldLink RX8 29 "RecordsOfficeModel" "forAll" "[Z", Cond.fieldLink RX8 23 "RecordsOfficeModel" "terms" "[I", Cond.methodLink RX8 123 yX8_add, Cond.static yX8_add, Cond.code yX8_add cX8_add 6 (some .int), Cond.methodLink RX8 176 yX8_holds, Cond.instanceMethod yX8_holds, Cond.selects RX8 yX8_holds yX8_holds, Cond.code yX8_holds cX8_holds 7 (some .int), Cond.fieldLink RX8 64 "RecordsOfficeModel" "holdFolders" "[I", Cond.fieldLink RX8 67 "RecordsOfficeModel" "holdClasses" "[I", Cond.fieldLink RX8 70 "RecordsOfficeModel" "holdKeys" "[I", Cond.fieldLink RX8 61 "RecordsOfficeModel" "placed" "[Z", Cond.fieldLink RX8 73 "RecordsOfficeModel" "holdFirsts" "[I", Cond.fieldLink RX8 76 "RecordsOfficeModel" "holdLasts" "[I", Cond.methodLink RX8 164 yX8_hasKey, Cond.instanceMethod yX8_hasKey, Cond.selects RX8 yX8_hasKey yX8_hasKey]
def wsX8_carry_r4 : List Cond := [Cond.code yX8_hasKey cX8_hasKey 3 (some .boolean), Cond.fieldLink RX8 55 "RecordsOfficeModel" "keys" "[I", Cond.methodLink RX8 160 yX8_isDay, Cond.instanceMethod yX8_isDay, Cond.selects RX8 yX8_isDay yX8_isDay, Cond.code yX8_isDay cX8_isDay 2 (some .boolean), Cond.constant RX8 118 (120000), Cond.methodLink RX8 200 yX8_bits, Cond.static yX8_bits, Cond.code yX8_bits cX8_bits 3 (some .int), Cond.methodLink RX8 194 yX8_hasRight, Cond.instanceMethod yX8_hasRight, Cond.selects RX8 yX8_hasRight yX8_hasRight, Cond.code yX8_hasRight cX8_hasRight 3 (some .boolean), Cond.fieldLink RX8 7 "RecordsOfficeModel" "rights" "[I", Cond.methodLink RX8 149 yX8_hasRoom, Cond.instanceMethod yX8_hasRoom, Cond.selects RX8 yX8_hasRoom yX8_hasRoom, Cond.code yX8_hasRoom cX8_hasRoom 2 (some .boolean), Cond.fieldLink RX8 138 "RecordsOfficeModel" "acts" "I", Cond.methodLink RX8 153 yX8_write, Cond.instanceMethod yX8_write, Cond.selects RX8 yX8_write yX8_write, Cond.code yX8_write cX8_write 5 none]
def wsX8_carry_r5 : List Cond := [Cond.fieldLink RX8 94 "RecordsOfficeModel" "numbers" "[I", Cond.fieldLink RX8 97 "RecordsOfficeModel" "links" "[J", Cond.methodLink RX8 141 yX8_linkOf, Cond.instanceMethod yX8_linkOf, Cond.selects RX8 yX8_linkOf yX8_linkOf, Cond.code yX8_linkOf cX8_linkOf 6 (some .long), Cond.fieldLink RX8 135 "RecordsOfficeModel" "records" "I", Cond.fieldLink RX8 51 "RecordsOfficeModel" "digests" "[J", Cond.methodLink RX8 131 yX8_linked, Cond.static yX8_linked, Cond.code yX8_linked cX8_linked 6 (some .long), Cond.constantLong RX8 129 (7046029254386353131)]
def wsX8_carry : List Cond := .code yX8_carry cX8_carry 8 (some .int) :: ((wsX8_carry_r1 ++ (wsX8_carry_r2 ++ (wsX8_carry_r3 ++ (wsX8_carry_r4 ++ wsX8_carry_r5)))) ++ wsX80)
def wsX8_count : List Cond := .code yX8_count cX8_count 4 (some .int) :: ([.fieldLink RX8 100 "RecordsOfficeModel" "thrown" "I", .fieldLink RX8 135 "RecordsOfficeModel" "records" "I", .fieldLink RX8 185 "RecordsOfficeModel" "lists" "I", .fieldLink RX8 138 "RecordsOfficeModel" "acts" "I", .fieldLink RX8 126 "RecordsOfficeModel" "today" "I", .fieldLink RX8 58 "RecordsOfficeModel" "destroyed" "[Z", .fieldLink RX8 48 "RecordsOfficeModel" "sizes" "[I", .methodLink RX8 114 yX8_isIn, .static yX8_isIn, .initialized RX8, .code yX8_isIn cX8_isIn 3 (some .boolean)] ++ wsX80)
def wsX8_noAct : List Cond := .code yX8_noAct cX8_noAct 2 (some .boolean) :: ([.fieldLink RX8 138 "RecordsOfficeModel" "acts" "I", .methodLink RX8 114 yX8_isIn, .static yX8_isIn, .initialized RX8, .code yX8_isIn cX8_isIn 3 (some .boolean)] ++ wsX80)
def wsX8_act : List Cond := .code yX8_act cX8_act 3 (some .int) :: ([.fieldLink RX8 100 "RecordsOfficeModel" "thrown" "I", .fieldLink RX8 94 "RecordsOfficeModel" "numbers" "[I", .methodLink RX8 206 yX8_noAct, .instanceMethod yX8_noAct, .selects RX8 yX8_noAct yX8_noAct, .initialized RX8, .code yX8_noAct cX8_noAct 2 (some .boolean), .fieldLink RX8 138 "RecordsOfficeModel" "acts" "I", .methodLink RX8 114 yX8_isIn, .static yX8_isIn, .code yX8_isIn cX8_isIn 3 (some .boolean)] ++ wsX80)
def wsX8_link : List Cond := .code yX8_link cX8_link 2 (some .long) :: ([.fieldLink RX8 100 "RecordsOfficeModel" "thrown" "I", .fieldLink RX8 97 "RecordsOfficeModel" "links" "[J", .methodLink RX8 206 yX8_noAct, .instanceMethod yX8_noAct, .selects RX8 yX8_noAct yX8_noAct, .initialized RX8, .code yX8_noAct cX8_noAct 2 (some .boolean), .fieldLink RX8 138 "RecordsOfficeModel" "acts" "I", .methodLink RX8 114 yX8_isIn, .static yX8_isIn, .code yX8_isIn cX8_isIn 3 (some .boolean)] ++ wsX80)
def wsX8_spoil : List Cond := .code yX8_spoil cX8_spoil 4 none :: ([.fieldLink RX8 100 "RecordsOfficeModel" "thrown" "I", .fieldLink RX8 94 "RecordsOfficeModel" "numbers" "[I", .methodLink RX8 206 yX8_noAct, .instanceMethod yX8_noAct, .selects RX8 yX8_noAct yX8_noAct, .initialized RX8, .code yX8_noAct cX8_noAct 2 (some .boolean), .fieldLink RX8 138 "RecordsOfficeModel" "acts" "I", .methodLink RX8 114 yX8_isIn, .static yX8_isIn, .code yX8_isIn cX8_isIn 3 (some .boolean)] ++ wsX80)
def wsX8_broken : List Cond := .code yX8_broken cX8_broken 2 (some .int) :: ([.fieldLink RX8 100 "RecordsOfficeModel" "thrown" "I", .fieldLink RX8 138 "RecordsOfficeModel" "acts" "I", .fieldLink RX8 97 "RecordsOfficeModel" "links" "[J", .methodLink RX8 141 yX8_linkOf, .instanceMethod yX8_linkOf, .selects RX8 yX8_linkOf yX8_linkOf, .initialized RX8, .code yX8_linkOf cX8_linkOf 6 (some .long), .fieldLink RX8 94 "RecordsOfficeModel" "numbers" "[I", .fieldLink RX8 135 "RecordsOfficeModel" "records" "I", .fieldLink RX8 51 "RecordsOfficeModel" "digests" "[J", .methodLink RX8 131 yX8_linked, .static yX8_linked, .code yX8_linked cX8_linked 6 (some .long), .constantLong RX8 129 (7046029254386353131), .methodLink RX8 114 yX8_isIn, .static yX8_isIn, .code yX8_isIn cX8_isIn 3 (some .boolean)] ++ wsX80)
def wsJ9_min_7cf53 : List Cond := .code yJ9_min_7cf53 cJ9_min_7cf53 2 (some .int) :: ([])
theorem inX1 : ∀ w ∈ wsX10, w ∈ lw_tbl := by decide +kernel
theorem inJ6 : ∀ w ∈ wsJ60, w ∈ lw_tbl := by decide +kernel
theorem inJ13 : ∀ w ∈ wsJ130, w ∈ lw_tbl := by decide +kernel
theorem inJ9 : ∀ w ∈ wsJ90, w ∈ lw_tbl := by decide +kernel
theorem inJ0 : ∀ w ∈ wsJ00, w ∈ lw_tbl := by decide +kernel
theorem dX0_init_0 : decode cX0_init 0 = .ok (.aload_n 0, 1) := by decide +kernel
theorem dX0_init_1 : decode cX0_init 1 = .ok (.invokespecial 3, 3) := by decide +kernel
theorem dX0_init_4 : decode cX0_init 4 = .ok (.aload_n 0, 1) := by decide +kernel
theorem dX0_init_5 : decode cX0_init 5 = .ok (.sipush 1600, 3) := by decide +kernel
theorem dX0_init_8 : decode cX0_init 8 = .ok (.newarray .int, 2) := by decide +kernel
theorem dX0_init_10 : decode cX0_init 10 = .ok (.putfield 11, 3) := by decide +kernel
theorem dX0_init_13 : decode cX0_init 13 = .ok (.aload_n 0, 1) := by decide +kernel
theorem dX0_init_14 : decode cX0_init 14 = .ok (.sipush 400, 3) := by decide +kernel
theorem dX0_init_17 : decode cX0_init 17 = .ok (.newarray .long, 2) := by decide +kernel
theorem dX0_init_19 : decode cX0_init 19 = .ok (.putfield 15, 3) := by decide +kernel
theorem dX0_init_22 : decode cX0_init 22 = .ok (.return_, 1) := by decide +kernel
theorem dX0_number_0 : decode cX0_number 0 = .ok (.aload_n 0, 1) := by decide +kernel
theorem dX0_number_1 : decode cX0_number 1 = .ok (.getfield 11, 3) := by decide +kernel
theorem dX0_number_4 : decode cX0_number 4 = .ok (.iconst 4, 1) := by decide +kernel
theorem dX0_number_5 : decode cX0_number 5 = .ok (.iload_n 1, 1) := by decide +kernel
theorem dX0_number_6 : decode cX0_number 6 = .ok (.imul, 1) := by decide +kernel
theorem dX0_number_7 : decode cX0_number 7 = .ok (.iload_n 2, 1) := by decide +kernel
theorem dX0_number_8 : decode cX0_number 8 = .ok (.iadd, 1) := by decide +kernel
theorem dX0_number_9 : decode cX0_number 9 = .ok (.iaload, 1) := by decide +kernel
theorem dX0_number_10 : decode cX0_number 10 = .ok (.ireturn, 1) := by decide +kernel
theorem dX0_setNumber_0 : decode cX0_setNumber 0 = .ok (.aload_n 0, 1) := by decide +kernel
theorem dX0_setNumber_1 : decode cX0_setNumber 1 = .ok (.getfield 11, 3) := by decide +kernel
theorem dX0_setNumber_4 : decode cX0_setNumber 4 = .ok (.iconst 4, 1) := by decide +kernel
theorem dX0_setNumber_5 : decode cX0_setNumber 5 = .ok (.iload_n 1, 1) := by decide +kernel
theorem dX0_setNumber_6 : decode cX0_setNumber 6 = .ok (.imul, 1) := by decide +kernel
theorem dX0_setNumber_7 : decode cX0_setNumber 7 = .ok (.iload_n 2, 1) := by decide +kernel
theorem dX0_setNumber_8 : decode cX0_setNumber 8 = .ok (.iadd, 1) := by decide +kernel
theorem dX0_setNumber_9 : decode cX0_setNumber 9 = .ok (.iload_n 3, 1) := by decide +kernel
theorem dX0_setNumber_10 : decode cX0_setNumber 10 = .ok (.iastore, 1) := by decide +kernel
theorem dX0_setNumber_11 : decode cX0_setNumber 11 = .ok (.return_, 1) := by decide +kernel
set_option maxRecDepth 20000 in
theorem ggX0_write_X0_setNumber : GoodIn wsX0_write wsX0_setNumber := goodIn_r _ [7, 8, 21, 22, 23] (by decide +kernel) (by decide +kernel)
set_option maxRecDepth 20000 in
theorem gX0_write_X0_setNumber : GoodIn wsX0_write (wsV RX0 23 RX0 yX0_setNumber wsX0_setNumber) := goodIn_app (goodIn_of _ (by decide +kernel)) ggX0_write_X0_setNumber
set_option maxRecDepth 20000 in
theorem ggX0_write_X0_linkFor : GoodIn wsX0_write wsX0_linkFor := goodIn_r _ [12, 2, 13, 14, 15, 6, 16, 8, 17, 18, 19, 20, 21, 22, 23] (by decide +kernel) (by decide +kernel)
set_option maxRecDepth 20000 in
theorem gX0_write_X0_linkFor : GoodIn wsX0_write (wsV RX0 27 RX0 yX0_linkFor wsX0_linkFor) := goodIn_app (goodIn_of _ (by decide +kernel)) ggX0_write_X0_linkFor
theorem dX0_write_0 : decode cX0_write 0 = .ok (.aload_n 0, 1) := by decide +kernel
theorem dX0_write_1 : decode cX0_write 1 = .ok (.getfield 19, 3) := by decide +kernel
theorem dX0_write_4 : decode cX0_write 4 = .ok (.istore 7, 2) := by decide +kernel
theorem dX0_write_6 : decode cX0_write 6 = .ok (.aload_n 0, 1) := by decide +kernel
theorem dX0_write_7 : decode cX0_write 7 = .ok (.iload 7, 2) := by decide +kernel
theorem dX0_write_9 : decode cX0_write 9 = .ok (.iconst 0, 1) := by decide +kernel
theorem dX0_write_10 : decode cX0_write 10 = .ok (.iload_n 1, 1) := by decide +kernel
theorem dX0_write_11 : decode cX0_write 11 = .ok (.invokevirtual 23, 3) := by decide +kernel
theorem dX0_write_14 : decode cX0_write 14 = .ok (.aload_n 0, 1) := by decide +kernel
theorem dX0_write_15 : decode cX0_write 15 = .ok (.iload 7, 2) := by decide +kernel
theorem dX0_write_17 : decode cX0_write 17 = .ok (.iconst 1, 1) := by decide +kernel
theorem dX0_write_18 : decode cX0_write 18 = .ok (.iload_n 2, 1) := by decide +kernel
theorem dX0_write_19 : decode cX0_write 19 = .ok (.invokevirtual 23, 3) := by decide +kernel
theorem dX0_write_22 : decode cX0_write 22 = .ok (.aload_n 0, 1) := by decide +kernel
theorem dX0_write_23 : decode cX0_write 23 = .ok (.iload 7, 2) := by decide +kernel
theorem dX0_write_25 : decode cX0_write 25 = .ok (.iconst 2, 1) := by decide +kernel
theorem dX0_write_26 : decode cX0_write 26 = .ok (.iload_n 3, 1) := by decide +kernel
theorem dX0_write_27 : decode cX0_write 27 = .ok (.invokevirtual 23, 3) := by decide +kernel
theorem dX0_write_30 : decode cX0_write 30 = .ok (.aload_n 0, 1) := by decide +kernel
theorem dX0_write_31 : decode cX0_write 31 = .ok (.iload 7, 2) := by decide +kernel
theorem dX0_write_33 : decode cX0_write 33 = .ok (.iconst 3, 1) := by decide +kernel
theorem dX0_write_34 : decode cX0_write 34 = .ok (.iload 4, 2) := by decide +kernel
theorem dX0_write_36 : decode cX0_write 36 = .ok (.invokevirtual 23, 3) := by decide +kernel
theorem dX0_write_39 : decode cX0_write 39 = .ok (.aload_n 0, 1) := by decide +kernel
theorem dX0_write_40 : decode cX0_write 40 = .ok (.getfield 15, 3) := by decide +kernel
theorem dX0_write_43 : decode cX0_write 43 = .ok (.iload 7, 2) := by decide +kernel
theorem dX0_write_45 : decode cX0_write 45 = .ok (.aload_n 0, 1) := by decide +kernel
theorem dX0_write_46 : decode cX0_write 46 = .ok (.iload 7, 2) := by decide +kernel
theorem dX0_write_48 : decode cX0_write 48 = .ok (.lload 5, 2) := by decide +kernel
theorem dX0_write_50 : decode cX0_write 50 = .ok (.invokevirtual 27, 3) := by decide +kernel
theorem dX0_write_53 : decode cX0_write 53 = .ok (.lastore, 1) := by decide +kernel
theorem dX0_write_54 : decode cX0_write 54 = .ok (.aload_n 0, 1) := by decide +kernel
theorem dX0_write_55 : decode cX0_write 55 = .ok (.dup, 1) := by decide +kernel
theorem dX0_write_56 : decode cX0_write 56 = .ok (.getfield 19, 3) := by decide +kernel
theorem dX0_write_59 : decode cX0_write 59 = .ok (.iconst 1, 1) := by decide +kernel
theorem dX0_write_60 : decode cX0_write 60 = .ok (.iadd, 1) := by decide +kernel
theorem dX0_write_61 : decode cX0_write 61 = .ok (.putfield 19, 3) := by decide +kernel
theorem dX0_write_64 : decode cX0_write 64 = .ok (.return_, 1) := by decide +kernel
set_option maxRecDepth 20000 in
theorem ggX0_linkFor_X0_number : GoodIn wsX0_linkFor wsX0_number := goodIn_r _ [6, 7, 12, 13, 14] (by decide +kernel) (by decide +kernel)
set_option maxRecDepth 20000 in
theorem gX0_linkFor_X0_number : GoodIn wsX0_linkFor (wsV RX0 31 RX0 yX0_number wsX0_number) := goodIn_app (goodIn_of _ (by decide +kernel)) ggX0_linkFor_X0_number
set_option maxRecDepth 20000 in
theorem ggX0_linkFor_X0_mix : GoodIn wsX0_linkFor wsX0_mix := goodIn_r _ [10, 11] (by decide +kernel) (by decide +kernel)
set_option maxRecDepth 20000 in
theorem gX0_linkFor_X0_mix : GoodIn wsX0_linkFor (va_wsS RX0 35 yX0_mix wsX0_mix) := goodIn_app (goodIn_of _ (by decide +kernel)) ggX0_linkFor_X0_mix
theorem dX0_linkFor_0 : decode cX0_linkFor 0 = .ok (.iload_n 1, 1) := by decide +kernel
theorem dX0_linkFor_1 : decode cX0_linkFor 1 = .ok (.ifCond .ne 7, 3) := by decide +kernel
theorem dX0_linkFor_4 : decode cX0_linkFor 4 = .ok (.lconst 0, 1) := by decide +kernel
theorem dX0_linkFor_5 : decode cX0_linkFor 5 = .ok (.goto 11, 3) := by decide +kernel
theorem dX0_linkFor_8 : decode cX0_linkFor 8 = .ok (.aload_n 0, 1) := by decide +kernel
theorem dX0_linkFor_9 : decode cX0_linkFor 9 = .ok (.getfield 15, 3) := by decide +kernel
theorem dX0_linkFor_12 : decode cX0_linkFor 12 = .ok (.iload_n 1, 1) := by decide +kernel
theorem dX0_linkFor_13 : decode cX0_linkFor 13 = .ok (.iconst 1, 1) := by decide +kernel
theorem dX0_linkFor_14 : decode cX0_linkFor 14 = .ok (.isub, 1) := by decide +kernel
theorem dX0_linkFor_15 : decode cX0_linkFor 15 = .ok (.laload, 1) := by decide +kernel
theorem dX0_linkFor_16 : decode cX0_linkFor 16 = .ok (.lstore 4, 2) := by decide +kernel
theorem dX0_linkFor_18 : decode cX0_linkFor 18 = .ok (.iconst 0, 1) := by decide +kernel
theorem dX0_linkFor_19 : decode cX0_linkFor 19 = .ok (.istore 6, 2) := by decide +kernel
theorem dX0_linkFor_21 : decode cX0_linkFor 21 = .ok (.iload 6, 2) := by decide +kernel
theorem dX0_linkFor_23 : decode cX0_linkFor 23 = .ok (.iconst 4, 1) := by decide +kernel
theorem dX0_linkFor_24 : decode cX0_linkFor 24 = .ok (.if_icmp .ge 24, 3) := by decide +kernel
theorem dX0_linkFor_27 : decode cX0_linkFor 27 = .ok (.lload 4, 2) := by decide +kernel
theorem dX0_linkFor_29 : decode cX0_linkFor 29 = .ok (.aload_n 0, 1) := by decide +kernel
theorem dX0_linkFor_30 : decode cX0_linkFor 30 = .ok (.iload_n 1, 1) := by decide +kernel
theorem dX0_linkFor_31 : decode cX0_linkFor 31 = .ok (.iload 6, 2) := by decide +kernel
theorem dX0_linkFor_33 : decode cX0_linkFor 33 = .ok (.invokevirtual 31, 3) := by decide +kernel
theorem dX0_linkFor_36 : decode cX0_linkFor 36 = .ok (.i2l, 1) := by decide +kernel
theorem dX0_linkFor_37 : decode cX0_linkFor 37 = .ok (.invokestatic 35, 3) := by decide +kernel
theorem dX0_linkFor_40 : decode cX0_linkFor 40 = .ok (.lstore 4, 2) := by decide +kernel
theorem dX0_linkFor_42 : decode cX0_linkFor 42 = .ok (.iinc 6 1, 3) := by decide +kernel
theorem dX0_linkFor_45 : decode cX0_linkFor 45 = .ok (.goto (-24), 3) := by decide +kernel
theorem dX0_linkFor_48 : decode cX0_linkFor 48 = .ok (.aload_n 0, 1) := by decide +kernel
theorem dX0_linkFor_49 : decode cX0_linkFor 49 = .ok (.iload_n 1, 1) := by decide +kernel
theorem dX0_linkFor_50 : decode cX0_linkFor 50 = .ok (.iconst 0, 1) := by decide +kernel
theorem dX0_linkFor_51 : decode cX0_linkFor 51 = .ok (.invokevirtual 31, 3) := by decide +kernel
theorem dX0_linkFor_54 : decode cX0_linkFor 54 = .ok (.istore 6, 2) := by decide +kernel
theorem dX0_linkFor_56 : decode cX0_linkFor 56 = .ok (.iload 6, 2) := by decide +kernel
theorem dX0_linkFor_58 : decode cX0_linkFor 58 = .ok (.iconst 5, 1) := by decide +kernel
theorem dX0_linkFor_59 : decode cX0_linkFor 59 = .ok (.if_icmp .eq 10, 3) := by decide +kernel
theorem dX0_linkFor_62 : decode cX0_linkFor 62 = .ok (.iload 6, 2) := by decide +kernel
theorem dX0_linkFor_64 : decode cX0_linkFor 64 = .ok (.bipush 11, 2) := by decide +kernel
theorem dX0_linkFor_66 : decode cX0_linkFor 66 = .ok (.if_icmp .ne 12, 3) := by decide +kernel
theorem dX0_linkFor_69 : decode cX0_linkFor 69 = .ok (.lload 4, 2) := by decide +kernel
theorem dX0_linkFor_71 : decode cX0_linkFor 71 = .ok (.lload_n 2, 1) := by decide +kernel
theorem dX0_linkFor_72 : decode cX0_linkFor 72 = .ok (.invokestatic 35, 3) := by decide +kernel
theorem dX0_linkFor_75 : decode cX0_linkFor 75 = .ok (.goto 5, 3) := by decide +kernel
theorem dX0_linkFor_78 : decode cX0_linkFor 78 = .ok (.lload 4, 2) := by decide +kernel
theorem dX0_linkFor_80 : decode cX0_linkFor 80 = .ok (.lreturn, 1) := by decide +kernel
theorem dX0_mix_0 : decode cX0_mix 0 = .ok (.lload_n 0, 1) := by decide +kernel
theorem dX0_mix_1 : decode cX0_mix 1 = .ok (.lload_n 2, 1) := by decide +kernel
theorem dX0_mix_2 : decode cX0_mix 2 = .ok (.lxor, 1) := by decide +kernel
theorem dX0_mix_3 : decode cX0_mix 3 = .ok (.ldc2_w 39, 3) := by decide +kernel
theorem dX0_mix_6 : decode cX0_mix 6 = .ok (.lmul, 1) := by decide +kernel
theorem dX0_mix_7 : decode cX0_mix 7 = .ok (.lstore 4, 2) := by decide +kernel
theorem dX0_mix_9 : decode cX0_mix 9 = .ok (.lload 4, 2) := by decide +kernel
theorem dX0_mix_11 : decode cX0_mix 11 = .ok (.lload 4, 2) := by decide +kernel
theorem dX0_mix_13 : decode cX0_mix 13 = .ok (.bipush 29, 2) := by decide +kernel
theorem dX0_mix_15 : decode cX0_mix 15 = .ok (.lushr, 1) := by decide +kernel
theorem dX0_mix_16 : decode cX0_mix 16 = .ok (.lxor, 1) := by decide +kernel
theorem dX0_mix_17 : decode cX0_mix 17 = .ok (.lreturn, 1) := by decide +kernel
theorem dX1_firstOf_0 : decode cX1_firstOf 0 = .ok (.iload_n 0, 1) := by decide +kernel
theorem dX1_firstOf_1 : decode cX1_firstOf 1 = .ok (.bipush 12, 2) := by decide +kernel
theorem dX1_firstOf_3 : decode cX1_firstOf 3 = .ok (.idiv, 1) := by decide +kernel
theorem dX1_firstOf_4 : decode cX1_firstOf 4 = .ok (.istore_n 1, 1) := by decide +kernel
theorem dX1_firstOf_5 : decode cX1_firstOf 5 = .ok (.iload_n 0, 1) := by decide +kernel
theorem dX1_firstOf_6 : decode cX1_firstOf 6 = .ok (.bipush 12, 2) := by decide +kernel
theorem dX1_firstOf_8 : decode cX1_firstOf 8 = .ok (.irem, 1) := by decide +kernel
theorem dX1_firstOf_9 : decode cX1_firstOf 9 = .ok (.istore_n 2, 1) := by decide +kernel
theorem dX1_firstOf_10 : decode cX1_firstOf 10 = .ok (.iload_n 2, 1) := by decide +kernel
theorem dX1_firstOf_11 : decode cX1_firstOf 11 = .ok (.iconst 2, 1) := by decide +kernel
theorem dX1_firstOf_12 : decode cX1_firstOf 12 = .ok (.if_icmp .ge 11, 3) := by decide +kernel
theorem dX1_firstOf_15 : decode cX1_firstOf 15 = .ok (.sipush 1899, 3) := by decide +kernel
theorem dX1_firstOf_18 : decode cX1_firstOf 18 = .ok (.iload_n 1, 1) := by decide +kernel
theorem dX1_firstOf_19 : decode cX1_firstOf 19 = .ok (.iadd, 1) := by decide +kernel
theorem dX1_firstOf_20 : decode cX1_firstOf 20 = .ok (.goto 8, 3) := by decide +kernel
theorem dX1_firstOf_23 : decode cX1_firstOf 23 = .ok (.sipush 1900, 3) := by decide +kernel
theorem dX1_firstOf_26 : decode cX1_firstOf 26 = .ok (.iload_n 1, 1) := by decide +kernel
theorem dX1_firstOf_27 : decode cX1_firstOf 27 = .ok (.iadd, 1) := by decide +kernel
theorem dX1_firstOf_28 : decode cX1_firstOf 28 = .ok (.istore_n 3, 1) := by decide +kernel
theorem dX1_firstOf_29 : decode cX1_firstOf 29 = .ok (.iload_n 3, 1) := by decide +kernel
theorem dX1_firstOf_30 : decode cX1_firstOf 30 = .ok (.iconst 4, 1) := by decide +kernel
theorem dX1_firstOf_31 : decode cX1_firstOf 31 = .ok (.idiv, 1) := by decide +kernel
theorem dX1_firstOf_32 : decode cX1_firstOf 32 = .ok (.iload_n 3, 1) := by decide +kernel
theorem dX1_firstOf_33 : decode cX1_firstOf 33 = .ok (.bipush 100, 2) := by decide +kernel
theorem dX1_firstOf_35 : decode cX1_firstOf 35 = .ok (.idiv, 1) := by decide +kernel
theorem dX1_firstOf_36 : decode cX1_firstOf 36 = .ok (.isub, 1) := by decide +kernel
theorem dX1_firstOf_37 : decode cX1_firstOf 37 = .ok (.iload_n 3, 1) := by decide +kernel
theorem dX1_firstOf_38 : decode cX1_firstOf 38 = .ok (.sipush 400, 3) := by decide +kernel
theorem dX1_firstOf_41 : decode cX1_firstOf 41 = .ok (.idiv, 1) := by decide +kernel
theorem dX1_firstOf_42 : decode cX1_firstOf 42 = .ok (.iadd, 1) := by decide +kernel
theorem dX1_firstOf_43 : decode cX1_firstOf 43 = .ok (.sipush 460, 3) := by decide +kernel
theorem dX1_firstOf_46 : decode cX1_firstOf 46 = .ok (.isub, 1) := by decide +kernel
theorem dX1_firstOf_47 : decode cX1_firstOf 47 = .ok (.istore 4, 2) := by decide +kernel
theorem dX1_firstOf_49 : decode cX1_firstOf 49 = .ok (.sipush 365, 3) := by decide +kernel
theorem dX1_firstOf_52 : decode cX1_firstOf 52 = .ok (.iload_n 1, 1) := by decide +kernel
theorem dX1_firstOf_53 : decode cX1_firstOf 53 = .ok (.imul, 1) := by decide +kernel
theorem dX1_firstOf_54 : decode cX1_firstOf 54 = .ok (.getstatic 9, 3) := by decide +kernel
theorem dX1_firstOf_57 : decode cX1_firstOf 57 = .ok (.iload_n 2, 1) := by decide +kernel
theorem dX1_firstOf_58 : decode cX1_firstOf 58 = .ok (.iaload, 1) := by decide +kernel
theorem dX1_firstOf_59 : decode cX1_firstOf 59 = .ok (.iadd, 1) := by decide +kernel
theorem dX1_firstOf_60 : decode cX1_firstOf 60 = .ok (.iload 4, 2) := by decide +kernel
theorem dX1_firstOf_62 : decode cX1_firstOf 62 = .ok (.iadd, 1) := by decide +kernel
theorem dX1_firstOf_63 : decode cX1_firstOf 63 = .ok (.ireturn, 1) := by decide +kernel
set_option maxRecDepth 20000 in
theorem ggX1_monthOf_X1_firstOf : GoodIn wsX1_monthOf wsX1_firstOf := goodIn_r _ [4, 5] (by decide +kernel) (by decide +kernel)
set_option maxRecDepth 20000 in
theorem gX1_monthOf_X1_firstOf : GoodIn wsX1_monthOf (va_wsS RX1 13 yX1_firstOf wsX1_firstOf) := goodIn_app (goodIn_of _ (by decide +kernel)) ggX1_monthOf_X1_firstOf
theorem dX1_monthOf_0 : decode cX1_monthOf 0 = .ok (.iload_n 0, 1) := by decide +kernel
theorem dX1_monthOf_1 : decode cX1_monthOf 1 = .ok (.sipush 366, 3) := by decide +kernel
theorem dX1_monthOf_4 : decode cX1_monthOf 4 = .ok (.idiv, 1) := by decide +kernel
theorem dX1_monthOf_5 : decode cX1_monthOf 5 = .ok (.bipush 12, 2) := by decide +kernel
theorem dX1_monthOf_7 : decode cX1_monthOf 7 = .ok (.imul, 1) := by decide +kernel
theorem dX1_monthOf_8 : decode cX1_monthOf 8 = .ok (.istore_n 1, 1) := by decide +kernel
theorem dX1_monthOf_9 : decode cX1_monthOf 9 = .ok (.iload_n 1, 1) := by decide +kernel
theorem dX1_monthOf_10 : decode cX1_monthOf 10 = .ok (.iload_n 0, 1) := by decide +kernel
theorem dX1_monthOf_11 : decode cX1_monthOf 11 = .ok (.iload_n 1, 1) := by decide +kernel
theorem dX1_monthOf_12 : decode cX1_monthOf 12 = .ok (.invokestatic 13, 3) := by decide +kernel
theorem dX1_monthOf_15 : decode cX1_monthOf 15 = .ok (.isub, 1) := by decide +kernel
theorem dX1_monthOf_16 : decode cX1_monthOf 16 = .ok (.bipush 31, 2) := by decide +kernel
theorem dX1_monthOf_18 : decode cX1_monthOf 18 = .ok (.idiv, 1) := by decide +kernel
theorem dX1_monthOf_19 : decode cX1_monthOf 19 = .ok (.iadd, 1) := by decide +kernel
theorem dX1_monthOf_20 : decode cX1_monthOf 20 = .ok (.istore_n 1, 1) := by decide +kernel
theorem dX1_monthOf_21 : decode cX1_monthOf 21 = .ok (.iload_n 1, 1) := by decide +kernel
theorem dX1_monthOf_22 : decode cX1_monthOf 22 = .ok (.iconst 1, 1) := by decide +kernel
theorem dX1_monthOf_23 : decode cX1_monthOf 23 = .ok (.iadd, 1) := by decide +kernel
theorem dX1_monthOf_24 : decode cX1_monthOf 24 = .ok (.invokestatic 13, 3) := by decide +kernel
theorem dX1_monthOf_27 : decode cX1_monthOf 27 = .ok (.iload_n 0, 1) := by decide +kernel
theorem dX1_monthOf_28 : decode cX1_monthOf 28 = .ok (.if_icmp .gt 9, 3) := by decide +kernel
theorem dX1_monthOf_31 : decode cX1_monthOf 31 = .ok (.iload_n 1, 1) := by decide +kernel
theorem dX1_monthOf_32 : decode cX1_monthOf 32 = .ok (.iconst 1, 1) := by decide +kernel
theorem dX1_monthOf_33 : decode cX1_monthOf 33 = .ok (.iadd, 1) := by decide +kernel
theorem dX1_monthOf_34 : decode cX1_monthOf 34 = .ok (.goto 4, 3) := by decide +kernel
theorem dX1_monthOf_37 : decode cX1_monthOf 37 = .ok (.iload_n 1, 1) := by decide +kernel
theorem dX1_monthOf_38 : decode cX1_monthOf 38 = .ok (.ireturn, 1) := by decide +kernel
set_option maxRecDepth 20000 in
theorem ggX1_plus_X1_monthOf : GoodIn wsX1_plus wsX1_monthOf := goodIn_r _ [8, 9, 10, 7, 11, 12] (by decide +kernel) (by decide +kernel)
set_option maxRecDepth 20000 in
theorem gX1_plus_X1_monthOf : GoodIn wsX1_plus (va_wsS RX1 17 yX1_monthOf wsX1_monthOf) := goodIn_app (goodIn_of _ (by decide +kernel)) ggX1_plus_X1_monthOf
set_option maxRecDepth 20000 in
theorem ggX1_plus_X1_firstOf : GoodIn wsX1_plus wsX1_firstOf := goodIn_r _ [11, 12] (by decide +kernel) (by decide +kernel)
set_option maxRecDepth 20000 in
theorem gX1_plus_X1_firstOf : GoodIn wsX1_plus (va_wsS RX1 13 yX1_firstOf wsX1_firstOf) := goodIn_app (goodIn_of _ (by decide +kernel)) ggX1_plus_X1_firstOf
theorem dX1_plus_0 : decode cX1_plus 0 = .ok (.iload_n 0, 1) := by decide +kernel
theorem dX1_plus_1 : decode cX1_plus 1 = .ok (.invokestatic 17, 3) := by decide +kernel
theorem dX1_plus_4 : decode cX1_plus 4 = .ok (.istore_n 2, 1) := by decide +kernel
theorem dX1_plus_5 : decode cX1_plus 5 = .ok (.iload_n 2, 1) := by decide +kernel
theorem dX1_plus_6 : decode cX1_plus 6 = .ok (.iload_n 1, 1) := by decide +kernel
theorem dX1_plus_7 : decode cX1_plus 7 = .ok (.iadd, 1) := by decide +kernel
theorem dX1_plus_8 : decode cX1_plus 8 = .ok (.invokestatic 13, 3) := by decide +kernel
theorem dX1_plus_11 : decode cX1_plus 11 = .ok (.iload_n 0, 1) := by decide +kernel
theorem dX1_plus_12 : decode cX1_plus 12 = .ok (.iload_n 2, 1) := by decide +kernel
theorem dX1_plus_13 : decode cX1_plus 13 = .ok (.invokestatic 13, 3) := by decide +kernel
theorem dX1_plus_16 : decode cX1_plus 16 = .ok (.isub, 1) := by decide +kernel
theorem dX1_plus_17 : decode cX1_plus 17 = .ok (.iadd, 1) := by decide +kernel
theorem dX1_plus_18 : decode cX1_plus 18 = .ok (.istore_n 3, 1) := by decide +kernel
theorem dX1_plus_19 : decode cX1_plus 19 = .ok (.iload_n 2, 1) := by decide +kernel
theorem dX1_plus_20 : decode cX1_plus 20 = .ok (.iload_n 1, 1) := by decide +kernel
theorem dX1_plus_21 : decode cX1_plus 21 = .ok (.iadd, 1) := by decide +kernel
theorem dX1_plus_22 : decode cX1_plus 22 = .ok (.iconst 1, 1) := by decide +kernel
theorem dX1_plus_23 : decode cX1_plus 23 = .ok (.iadd, 1) := by decide +kernel
theorem dX1_plus_24 : decode cX1_plus 24 = .ok (.invokestatic 13, 3) := by decide +kernel
theorem dX1_plus_27 : decode cX1_plus 27 = .ok (.iconst 1, 1) := by decide +kernel
theorem dX1_plus_28 : decode cX1_plus 28 = .ok (.isub, 1) := by decide +kernel
theorem dX1_plus_29 : decode cX1_plus 29 = .ok (.istore 4, 2) := by decide +kernel
theorem dX1_plus_31 : decode cX1_plus 31 = .ok (.iload_n 3, 1) := by decide +kernel
theorem dX1_plus_32 : decode cX1_plus 32 = .ok (.iload 4, 2) := by decide +kernel
theorem dX1_plus_34 : decode cX1_plus 34 = .ok (.invokestatic 20, 3) := by decide +kernel
theorem dX1_plus_37 : decode cX1_plus 37 = .ok (.ireturn, 1) := by decide +kernel
set_option maxRecDepth 20000 in
theorem ggX1_fiscalEnd_X1_monthOf : GoodIn wsX1_fiscalEnd wsX1_monthOf := goodIn_r _ [4, 5, 6, 3, 7, 8] (by decide +kernel) (by decide +kernel)
set_option maxRecDepth 20000 in
theorem gX1_fiscalEnd_X1_monthOf : GoodIn wsX1_fiscalEnd (va_wsS RX1 17 yX1_monthOf wsX1_monthOf) := goodIn_app (goodIn_of _ (by decide +kernel)) ggX1_fiscalEnd_X1_monthOf
set_option maxRecDepth 20000 in
theorem ggX1_fiscalEnd_X1_firstOf : GoodIn wsX1_fiscalEnd wsX1_firstOf := goodIn_r _ [7, 8] (by decide +kernel) (by decide +kernel)
set_option maxRecDepth 20000 in
theorem gX1_fiscalEnd_X1_firstOf : GoodIn wsX1_fiscalEnd (va_wsS RX1 13 yX1_firstOf wsX1_firstOf) := goodIn_app (goodIn_of _ (by decide +kernel)) ggX1_fiscalEnd_X1_firstOf
theorem dX1_fiscalEnd_0 : decode cX1_fiscalEnd 0 = .ok (.iload_n 0, 1) := by decide +kernel
theorem dX1_fiscalEnd_1 : decode cX1_fiscalEnd 1 = .ok (.invokestatic 17, 3) := by decide +kernel
theorem dX1_fiscalEnd_4 : decode cX1_fiscalEnd 4 = .ok (.istore_n 2, 1) := by decide +kernel
theorem dX1_fiscalEnd_5 : decode cX1_fiscalEnd 5 = .ok (.iload_n 2, 1) := by decide +kernel
theorem dX1_fiscalEnd_6 : decode cX1_fiscalEnd 6 = .ok (.bipush 13, 2) := by decide +kernel
theorem dX1_fiscalEnd_8 : decode cX1_fiscalEnd 8 = .ok (.iadd, 1) := by decide +kernel
theorem dX1_fiscalEnd_9 : decode cX1_fiscalEnd 9 = .ok (.iload_n 1, 1) := by decide +kernel
theorem dX1_fiscalEnd_10 : decode cX1_fiscalEnd 10 = .ok (.isub, 1) := by decide +kernel
theorem dX1_fiscalEnd_11 : decode cX1_fiscalEnd 11 = .ok (.bipush 12, 2) := by decide +kernel
theorem dX1_fiscalEnd_13 : decode cX1_fiscalEnd 13 = .ok (.irem, 1) := by decide +kernel
theorem dX1_fiscalEnd_14 : decode cX1_fiscalEnd 14 = .ok (.istore_n 3, 1) := by decide +kernel
theorem dX1_fiscalEnd_15 : decode cX1_fiscalEnd 15 = .ok (.iload_n 2, 1) := by decide +kernel
theorem dX1_fiscalEnd_16 : decode cX1_fiscalEnd 16 = .ok (.iload_n 3, 1) := by decide +kernel
theorem dX1_fiscalEnd_17 : decode cX1_fiscalEnd 17 = .ok (.isub, 1) := by decide +kernel
theorem dX1_fiscalEnd_18 : decode cX1_fiscalEnd 18 = .ok (.bipush 12, 2) := by decide +kernel
theorem dX1_fiscalEnd_20 : decode cX1_fiscalEnd 20 = .ok (.iadd, 1) := by decide +kernel
theorem dX1_fiscalEnd_21 : decode cX1_fiscalEnd 21 = .ok (.invokestatic 13, 3) := by decide +kernel
theorem dX1_fiscalEnd_24 : decode cX1_fiscalEnd 24 = .ok (.iconst 1, 1) := by decide +kernel
theorem dX1_fiscalEnd_25 : decode cX1_fiscalEnd 25 = .ok (.isub, 1) := by decide +kernel
theorem dX1_fiscalEnd_26 : decode cX1_fiscalEnd 26 = .ok (.ireturn, 1) := by decide +kernel
theorem dX2_init_0 : decode cX2_init 0 = .ok (.aload_n 0, 1) := by decide +kernel
theorem dX2_init_1 : decode cX2_init 1 = .ok (.invokespecial 3, 3) := by decide +kernel
theorem dX2_init_4 : decode cX2_init 4 = .ok (.aload_n 0, 1) := by decide +kernel
theorem dX2_init_5 : decode cX2_init 5 = .ok (.iconst 1, 1) := by decide +kernel
theorem dX2_init_6 : decode cX2_init 6 = .ok (.putfield 9, 3) := by decide +kernel
theorem dX2_init_9 : decode cX2_init 9 = .ok (.aload_n 0, 1) := by decide +kernel
theorem dX2_init_10 : decode cX2_init 10 = .ok (.iload_n 1, 1) := by decide +kernel
theorem dX2_init_11 : decode cX2_init 11 = .ok (.putfield 15, 3) := by decide +kernel
theorem dX2_init_14 : decode cX2_init 14 = .ok (.aload_n 0, 1) := by decide +kernel
theorem dX2_init_15 : decode cX2_init 15 = .ok (.lload_n 2, 1) := by decide +kernel
theorem dX2_init_16 : decode cX2_init 16 = .ok (.putfield 19, 3) := by decide +kernel
theorem dX2_init_19 : decode cX2_init 19 = .ok (.return_, 1) := by decide +kernel
set_option maxRecDepth 20000 in
theorem ggX2_size_J13_bitCount_95d88 : GoodIn wsX2_size wsJ13_bitCount_95d88 := goodIn_r _ [5, 6, 7, 8] (by decide +kernel) (by decide +kernel)
set_option maxRecDepth 20000 in
theorem gX2_size_J13_bitCount_95d88 : GoodIn wsX2_size (va_wsS RX2 23 yJ13_bitCount_95d88 wsJ13_bitCount_95d88) := goodIn_app (goodIn_of _ (by decide +kernel)) ggX2_size_J13_bitCount_95d88
theorem dX2_size_0 : decode cX2_size 0 = .ok (.aload_n 0, 1) := by decide +kernel
theorem dX2_size_1 : decode cX2_size 1 = .ok (.getfield 19, 3) := by decide +kernel
theorem dX2_size_4 : decode cX2_size 4 = .ok (.invokestatic 23, 3) := by decide +kernel
theorem dX2_size_7 : decode cX2_size 7 = .ok (.ireturn, 1) := by decide +kernel
theorem dX2_has_0 : decode cX2_has 0 = .ok (.iload_n 1, 1) := by decide +kernel
theorem dX2_has_1 : decode cX2_has 1 = .ok (.ifCond .lt 26, 3) := by decide +kernel
theorem dX2_has_4 : decode cX2_has 4 = .ok (.iload_n 1, 1) := by decide +kernel
theorem dX2_has_5 : decode cX2_has 5 = .ok (.bipush 64, 2) := by decide +kernel
theorem dX2_has_7 : decode cX2_has 7 = .ok (.if_icmp .ge 20, 3) := by decide +kernel
theorem dX2_has_10 : decode cX2_has 10 = .ok (.aload_n 0, 1) := by decide +kernel
theorem dX2_has_11 : decode cX2_has 11 = .ok (.getfield 19, 3) := by decide +kernel
theorem dX2_has_14 : decode cX2_has 14 = .ok (.iload_n 1, 1) := by decide +kernel
theorem dX2_has_15 : decode cX2_has 15 = .ok (.lushr, 1) := by decide +kernel
theorem dX2_has_16 : decode cX2_has 16 = .ok (.lconst 1, 1) := by decide +kernel
theorem dX2_has_17 : decode cX2_has 17 = .ok (.land, 1) := by decide +kernel
theorem dX2_has_18 : decode cX2_has 18 = .ok (.lconst 0, 1) := by decide +kernel
theorem dX2_has_19 : decode cX2_has 19 = .ok (.lcmp, 1) := by decide +kernel
theorem dX2_has_20 : decode cX2_has 20 = .ok (.ifCond .eq 7, 3) := by decide +kernel
theorem dX2_has_23 : decode cX2_has 23 = .ok (.iconst 1, 1) := by decide +kernel
theorem dX2_has_24 : decode cX2_has 24 = .ok (.goto 4, 3) := by decide +kernel
theorem dX2_has_27 : decode cX2_has 27 = .ok (.iconst 0, 1) := by decide +kernel
theorem dX2_has_28 : decode cX2_has 28 = .ok (.ireturn, 1) := by decide +kernel
theorem dX2_remove_0 : decode cX2_remove 0 = .ok (.aload_n 0, 1) := by decide +kernel
theorem dX2_remove_1 : decode cX2_remove 1 = .ok (.dup, 1) := by decide +kernel
theorem dX2_remove_2 : decode cX2_remove 2 = .ok (.getfield 19, 3) := by decide +kernel
theorem dX2_remove_5 : decode cX2_remove 5 = .ok (.lconst 1, 1) := by decide +kernel
theorem dX2_remove_6 : decode cX2_remove 6 = .ok (.iload_n 1, 1) := by decide +kernel
theorem dX2_remove_7 : decode cX2_remove 7 = .ok (.lshl, 1) := by decide +kernel
theorem dX2_remove_8 : decode cX2_remove 8 = .ok (.ldc2_w 29, 3) := by decide +kernel
theorem dX2_remove_11 : decode cX2_remove 11 = .ok (.lxor, 1) := by decide +kernel
theorem dX2_remove_12 : decode cX2_remove 12 = .ok (.land, 1) := by decide +kernel
theorem dX2_remove_13 : decode cX2_remove 13 = .ok (.putfield 19, 3) := by decide +kernel
theorem dX2_remove_16 : decode cX2_remove 16 = .ok (.return_, 1) := by decide +kernel
set_option maxRecDepth 20000 in
theorem ggX2_recordAtPlace_X2_has : GoodIn wsX2_recordAtPlace wsX2_has := goodIn_r _ [5, 6, 7, 8, 9, 10] (by decide +kernel) (by decide +kernel)
set_option maxRecDepth 20000 in
theorem gX2_recordAtPlace_X2_has : GoodIn wsX2_recordAtPlace (wsV RX2 31 RX2 yX2_has wsX2_has) := goodIn_app (goodIn_of _ (by decide +kernel)) ggX2_recordAtPlace_X2_has
theorem dX2_recordAtPlace_0 : decode cX2_recordAtPlace 0 = .ok (.iconst 0, 1) := by decide +kernel
theorem dX2_recordAtPlace_1 : decode cX2_recordAtPlace 1 = .ok (.istore_n 2, 1) := by decide +kernel
theorem dX2_recordAtPlace_2 : decode cX2_recordAtPlace 2 = .ok (.iconst 0, 1) := by decide +kernel
theorem dX2_recordAtPlace_3 : decode cX2_recordAtPlace 3 = .ok (.istore_n 3, 1) := by decide +kernel
theorem dX2_recordAtPlace_4 : decode cX2_recordAtPlace 4 = .ok (.iload_n 3, 1) := by decide +kernel
theorem dX2_recordAtPlace_5 : decode cX2_recordAtPlace 5 = .ok (.bipush 64, 2) := by decide +kernel
theorem dX2_recordAtPlace_7 : decode cX2_recordAtPlace 7 = .ok (.if_icmp .ge 27, 3) := by decide +kernel
theorem dX2_recordAtPlace_10 : decode cX2_recordAtPlace 10 = .ok (.aload_n 0, 1) := by decide +kernel
theorem dX2_recordAtPlace_11 : decode cX2_recordAtPlace 11 = .ok (.iload_n 3, 1) := by decide +kernel
theorem dX2_recordAtPlace_12 : decode cX2_recordAtPlace 12 = .ok (.invokevirtual 31, 3) := by decide +kernel
theorem dX2_recordAtPlace_15 : decode cX2_recordAtPlace 15 = .ok (.ifCond .eq 13, 3) := by decide +kernel
theorem dX2_recordAtPlace_18 : decode cX2_recordAtPlace 18 = .ok (.iload_n 2, 1) := by decide +kernel
theorem dX2_recordAtPlace_19 : decode cX2_recordAtPlace 19 = .ok (.iload_n 1, 1) := by decide +kernel
theorem dX2_recordAtPlace_20 : decode cX2_recordAtPlace 20 = .ok (.if_icmp .ne 5, 3) := by decide +kernel
theorem dX2_recordAtPlace_23 : decode cX2_recordAtPlace 23 = .ok (.iload_n 3, 1) := by decide +kernel
theorem dX2_recordAtPlace_24 : decode cX2_recordAtPlace 24 = .ok (.ireturn, 1) := by decide +kernel
theorem dX2_recordAtPlace_25 : decode cX2_recordAtPlace 25 = .ok (.iinc 2 1, 3) := by decide +kernel
theorem dX2_recordAtPlace_28 : decode cX2_recordAtPlace 28 = .ok (.iinc 3 1, 3) := by decide +kernel
theorem dX2_recordAtPlace_31 : decode cX2_recordAtPlace 31 = .ok (.goto (-27), 3) := by decide +kernel
theorem dX2_recordAtPlace_34 : decode cX2_recordAtPlace 34 = .ok (.iconst (-1), 1) := by decide +kernel
theorem dX2_recordAtPlace_35 : decode cX2_recordAtPlace 35 = .ok (.ireturn, 1) := by decide +kernel
theorem dX2_isApprovedBy_0 : decode cX2_isApprovedBy 0 = .ok (.aload_n 0, 1) := by decide +kernel
theorem dX2_isApprovedBy_1 : decode cX2_isApprovedBy 1 = .ok (.getfield 35, 3) := by decide +kernel
theorem dX2_isApprovedBy_4 : decode cX2_isApprovedBy 4 = .ok (.iload_n 1, 1) := by decide +kernel
theorem dX2_isApprovedBy_5 : decode cX2_isApprovedBy 5 = .ok (.iushr, 1) := by decide +kernel
theorem dX2_isApprovedBy_6 : decode cX2_isApprovedBy 6 = .ok (.iconst 1, 1) := by decide +kernel
theorem dX2_isApprovedBy_7 : decode cX2_isApprovedBy 7 = .ok (.iand, 1) := by decide +kernel
theorem dX2_isApprovedBy_8 : decode cX2_isApprovedBy 8 = .ok (.ifCond .eq 7, 3) := by decide +kernel
theorem dX2_isApprovedBy_11 : decode cX2_isApprovedBy 11 = .ok (.iconst 1, 1) := by decide +kernel
theorem dX2_isApprovedBy_12 : decode cX2_isApprovedBy 12 = .ok (.goto 4, 3) := by decide +kernel
theorem dX2_isApprovedBy_15 : decode cX2_isApprovedBy 15 = .ok (.iconst 0, 1) := by decide +kernel
theorem dX2_isApprovedBy_16 : decode cX2_isApprovedBy 16 = .ok (.ireturn, 1) := by decide +kernel
theorem dX2_addApproval_0 : decode cX2_addApproval 0 = .ok (.aload_n 0, 1) := by decide +kernel
theorem dX2_addApproval_1 : decode cX2_addApproval 1 = .ok (.dup, 1) := by decide +kernel
theorem dX2_addApproval_2 : decode cX2_addApproval 2 = .ok (.getfield 35, 3) := by decide +kernel
theorem dX2_addApproval_5 : decode cX2_addApproval 5 = .ok (.iconst 1, 1) := by decide +kernel
theorem dX2_addApproval_6 : decode cX2_addApproval 6 = .ok (.iload_n 1, 1) := by decide +kernel
theorem dX2_addApproval_7 : decode cX2_addApproval 7 = .ok (.ishl, 1) := by decide +kernel
theorem dX2_addApproval_8 : decode cX2_addApproval 8 = .ok (.ior, 1) := by decide +kernel
theorem dX2_addApproval_9 : decode cX2_addApproval 9 = .ok (.putfield 35, 3) := by decide +kernel
theorem dX2_addApproval_12 : decode cX2_addApproval 12 = .ok (.return_, 1) := by decide +kernel
set_option maxRecDepth 20000 in
theorem ggX2_approvals_J6_bitCount_0f7a4 : GoodIn wsX2_approvals wsJ6_bitCount_0f7a4 := goodIn_r _ [5, 6, 7, 8] (by decide +kernel) (by decide +kernel)
set_option maxRecDepth 20000 in
theorem gX2_approvals_J6_bitCount_0f7a4 : GoodIn wsX2_approvals (va_wsS RX2 38 yJ6_bitCount_0f7a4 wsJ6_bitCount_0f7a4) := goodIn_app (goodIn_of _ (by decide +kernel)) ggX2_approvals_J6_bitCount_0f7a4
theorem dX2_approvals_0 : decode cX2_approvals 0 = .ok (.aload_n 0, 1) := by decide +kernel
theorem dX2_approvals_1 : decode cX2_approvals 1 = .ok (.getfield 35, 3) := by decide +kernel
theorem dX2_approvals_4 : decode cX2_approvals 4 = .ok (.invokestatic 38, 3) := by decide +kernel
theorem dX2_approvals_7 : decode cX2_approvals 7 = .ok (.ireturn, 1) := by decide +kernel
theorem dX3_init_0 : decode cX3_init 0 = .ok (.aload_n 0, 1) := by decide +kernel
theorem dX3_init_1 : decode cX3_init 1 = .ok (.invokespecial 3, 3) := by decide +kernel
theorem dX3_init_4 : decode cX3_init 4 = .ok (.aload_n 0, 1) := by decide +kernel
theorem dX3_init_5 : decode cX3_init 5 = .ok (.aload_n 1, 1) := by decide +kernel
theorem dX3_init_6 : decode cX3_init 6 = .ok (.putfield 9, 3) := by decide +kernel
theorem dX3_init_9 : decode cX3_init 9 = .ok (.aload_n 0, 1) := by decide +kernel
theorem dX3_init_10 : decode cX3_init 10 = .ok (.iload_n 2, 1) := by decide +kernel
theorem dX3_init_11 : decode cX3_init 11 = .ok (.putfield 15, 3) := by decide +kernel
theorem dX3_init_14 : decode cX3_init 14 = .ok (.aload_n 0, 1) := by decide +kernel
theorem dX3_init_15 : decode cX3_init 15 = .ok (.lload_n 3, 1) := by decide +kernel
theorem dX3_init_16 : decode cX3_init 16 = .ok (.putfield 19, 3) := by decide +kernel
theorem dX3_init_19 : decode cX3_init 19 = .ok (.aload_n 0, 1) := by decide +kernel
theorem dX3_init_20 : decode cX3_init 20 = .ok (.iload 5, 2) := by decide +kernel
theorem dX3_init_22 : decode cX3_init 22 = .ok (.putfield 23, 3) := by decide +kernel
theorem dX3_init_25 : decode cX3_init 25 = .ok (.aload_n 0, 1) := by decide +kernel
theorem dX3_init_26 : decode cX3_init 26 = .ok (.iload 6, 2) := by decide +kernel
theorem dX3_init_28 : decode cX3_init 28 = .ok (.putfield 26, 3) := by decide +kernel
theorem dX3_init_31 : decode cX3_init 31 = .ok (.aload_n 0, 1) := by decide +kernel
theorem dX3_init_32 : decode cX3_init 32 = .ok (.iload 7, 2) := by decide +kernel
theorem dX3_init_34 : decode cX3_init 34 = .ok (.putfield 29, 3) := by decide +kernel
theorem dX3_init_37 : decode cX3_init 37 = .ok (.aload_n 0, 1) := by decide +kernel
theorem dX3_init_38 : decode cX3_init 38 = .ok (.iload 8, 2) := by decide +kernel
theorem dX3_init_40 : decode cX3_init 40 = .ok (.putfield 32, 3) := by decide +kernel
theorem dX3_init_43 : decode cX3_init 43 = .ok (.return_, 1) := by decide +kernel
theorem dX3_hasKey_0 : decode cX3_hasKey 0 = .ok (.aload_n 0, 1) := by decide +kernel
theorem dX3_hasKey_1 : decode cX3_hasKey 1 = .ok (.getfield 23, 3) := by decide +kernel
theorem dX3_hasKey_4 : decode cX3_hasKey 4 = .ok (.iload_n 1, 1) := by decide +kernel
theorem dX3_hasKey_5 : decode cX3_hasKey 5 = .ok (.if_icmp .eq 19, 3) := by decide +kernel
theorem dX3_hasKey_8 : decode cX3_hasKey 8 = .ok (.aload_n 0, 1) := by decide +kernel
theorem dX3_hasKey_9 : decode cX3_hasKey 9 = .ok (.getfield 26, 3) := by decide +kernel
theorem dX3_hasKey_12 : decode cX3_hasKey 12 = .ok (.iload_n 1, 1) := by decide +kernel
theorem dX3_hasKey_13 : decode cX3_hasKey 13 = .ok (.if_icmp .eq 11, 3) := by decide +kernel
theorem dX3_hasKey_16 : decode cX3_hasKey 16 = .ok (.aload_n 0, 1) := by decide +kernel
theorem dX3_hasKey_17 : decode cX3_hasKey 17 = .ok (.getfield 29, 3) := by decide +kernel
theorem dX3_hasKey_20 : decode cX3_hasKey 20 = .ok (.iload_n 1, 1) := by decide +kernel
theorem dX3_hasKey_21 : decode cX3_hasKey 21 = .ok (.if_icmp .ne 7, 3) := by decide +kernel
theorem dX3_hasKey_24 : decode cX3_hasKey 24 = .ok (.iconst 1, 1) := by decide +kernel
theorem dX3_hasKey_25 : decode cX3_hasKey 25 = .ok (.goto 4, 3) := by decide +kernel
theorem dX3_hasKey_28 : decode cX3_hasKey 28 = .ok (.iconst 0, 1) := by decide +kernel
theorem dX3_hasKey_29 : decode cX3_hasKey 29 = .ok (.ireturn, 1) := by decide +kernel
theorem dX3_keyCount_0 : decode cX3_keyCount 0 = .ok (.aload_n 0, 1) := by decide +kernel
theorem dX3_keyCount_1 : decode cX3_keyCount 1 = .ok (.getfield 23, 3) := by decide +kernel
theorem dX3_keyCount_4 : decode cX3_keyCount 4 = .ok (.iconst (-1), 1) := by decide +kernel
theorem dX3_keyCount_5 : decode cX3_keyCount 5 = .ok (.if_icmp .ne 7, 3) := by decide +kernel
theorem dX3_keyCount_8 : decode cX3_keyCount 8 = .ok (.iconst 0, 1) := by decide +kernel
theorem dX3_keyCount_9 : decode cX3_keyCount 9 = .ok (.goto 4, 3) := by decide +kernel
theorem dX3_keyCount_12 : decode cX3_keyCount 12 = .ok (.iconst 1, 1) := by decide +kernel
theorem dX3_keyCount_13 : decode cX3_keyCount 13 = .ok (.istore_n 1, 1) := by decide +kernel
theorem dX3_keyCount_14 : decode cX3_keyCount 14 = .ok (.aload_n 0, 1) := by decide +kernel
theorem dX3_keyCount_15 : decode cX3_keyCount 15 = .ok (.getfield 26, 3) := by decide +kernel
theorem dX3_keyCount_18 : decode cX3_keyCount 18 = .ok (.iconst (-1), 1) := by decide +kernel
theorem dX3_keyCount_19 : decode cX3_keyCount 19 = .ok (.if_icmp .eq 17, 3) := by decide +kernel
theorem dX3_keyCount_22 : decode cX3_keyCount 22 = .ok (.aload_n 0, 1) := by decide +kernel
theorem dX3_keyCount_23 : decode cX3_keyCount 23 = .ok (.getfield 26, 3) := by decide +kernel
theorem dX3_keyCount_26 : decode cX3_keyCount 26 = .ok (.aload_n 0, 1) := by decide +kernel
theorem dX3_keyCount_27 : decode cX3_keyCount 27 = .ok (.getfield 23, 3) := by decide +kernel
theorem dX3_keyCount_30 : decode cX3_keyCount 30 = .ok (.if_icmp .eq 6, 3) := by decide +kernel
theorem dX3_keyCount_33 : decode cX3_keyCount 33 = .ok (.iinc 1 1, 3) := by decide +kernel
theorem dX3_keyCount_36 : decode cX3_keyCount 36 = .ok (.aload_n 0, 1) := by decide +kernel
theorem dX3_keyCount_37 : decode cX3_keyCount 37 = .ok (.getfield 29, 3) := by decide +kernel
theorem dX3_keyCount_40 : decode cX3_keyCount 40 = .ok (.iconst (-1), 1) := by decide +kernel
theorem dX3_keyCount_41 : decode cX3_keyCount 41 = .ok (.if_icmp .eq 28, 3) := by decide +kernel
theorem dX3_keyCount_44 : decode cX3_keyCount 44 = .ok (.aload_n 0, 1) := by decide +kernel
theorem dX3_keyCount_45 : decode cX3_keyCount 45 = .ok (.getfield 29, 3) := by decide +kernel
theorem dX3_keyCount_48 : decode cX3_keyCount 48 = .ok (.aload_n 0, 1) := by decide +kernel
theorem dX3_keyCount_49 : decode cX3_keyCount 49 = .ok (.getfield 23, 3) := by decide +kernel
theorem dX3_keyCount_52 : decode cX3_keyCount 52 = .ok (.if_icmp .eq 17, 3) := by decide +kernel
theorem dX3_keyCount_55 : decode cX3_keyCount 55 = .ok (.aload_n 0, 1) := by decide +kernel
theorem dX3_keyCount_56 : decode cX3_keyCount 56 = .ok (.getfield 29, 3) := by decide +kernel
theorem dX3_keyCount_59 : decode cX3_keyCount 59 = .ok (.aload_n 0, 1) := by decide +kernel
theorem dX3_keyCount_60 : decode cX3_keyCount 60 = .ok (.getfield 26, 3) := by decide +kernel
theorem dX3_keyCount_63 : decode cX3_keyCount 63 = .ok (.if_icmp .eq 6, 3) := by decide +kernel
theorem dX3_keyCount_66 : decode cX3_keyCount 66 = .ok (.iinc 1 1, 3) := by decide +kernel
theorem dX3_keyCount_69 : decode cX3_keyCount 69 = .ok (.iload_n 1, 1) := by decide +kernel
theorem dX3_keyCount_70 : decode cX3_keyCount 70 = .ok (.ireturn, 1) := by decide +kernel
theorem dX3_isFiledFrom_0 : decode cX3_isFiledFrom 0 = .ok (.iload_n 1, 1) := by decide +kernel
theorem dX3_isFiledFrom_1 : decode cX3_isFiledFrom 1 = .ok (.aload_n 0, 1) := by decide +kernel
theorem dX3_isFiledFrom_2 : decode cX3_isFiledFrom 2 = .ok (.getfield 32, 3) := by decide +kernel
theorem dX3_isFiledFrom_5 : decode cX3_isFiledFrom 5 = .ok (.if_icmp .gt 15, 3) := by decide +kernel
theorem dX3_isFiledFrom_8 : decode cX3_isFiledFrom 8 = .ok (.aload_n 0, 1) := by decide +kernel
theorem dX3_isFiledFrom_9 : decode cX3_isFiledFrom 9 = .ok (.getfield 32, 3) := by decide +kernel
theorem dX3_isFiledFrom_12 : decode cX3_isFiledFrom 12 = .ok (.iload_n 2, 1) := by decide +kernel
theorem dX3_isFiledFrom_13 : decode cX3_isFiledFrom 13 = .ok (.if_icmp .gt 7, 3) := by decide +kernel
theorem dX3_isFiledFrom_16 : decode cX3_isFiledFrom 16 = .ok (.iconst 1, 1) := by decide +kernel
theorem dX3_isFiledFrom_17 : decode cX3_isFiledFrom 17 = .ok (.goto 4, 3) := by decide +kernel
theorem dX3_isFiledFrom_20 : decode cX3_isFiledFrom 20 = .ok (.iconst 0, 1) := by decide +kernel
theorem dX3_isFiledFrom_21 : decode cX3_isFiledFrom 21 = .ok (.ireturn, 1) := by decide +kernel
theorem dX4_init_0 : decode cX4_init 0 = .ok (.aload_n 0, 1) := by decide +kernel
theorem dX4_init_1 : decode cX4_init 1 = .ok (.invokespecial 3, 3) := by decide +kernel
theorem dX4_init_4 : decode cX4_init 4 = .ok (.aload_n 0, 1) := by decide +kernel
theorem dX4_init_5 : decode cX4_init 5 = .ok (.iconst (-1), 1) := by decide +kernel
theorem dX4_init_6 : decode cX4_init 6 = .ok (.putfield 9, 3) := by decide +kernel
theorem dX4_init_9 : decode cX4_init 9 = .ok (.aload_n 0, 1) := by decide +kernel
theorem dX4_init_10 : decode cX4_init 10 = .ok (.iconst (-1), 1) := by decide +kernel
theorem dX4_init_11 : decode cX4_init 11 = .ok (.putfield 15, 3) := by decide +kernel
theorem dX4_init_14 : decode cX4_init 14 = .ok (.aload_n 0, 1) := by decide +kernel
theorem dX4_init_15 : decode cX4_init 15 = .ok (.iload_n 1, 1) := by decide +kernel
theorem dX4_init_16 : decode cX4_init 16 = .ok (.putfield 18, 3) := by decide +kernel
theorem dX4_init_19 : decode cX4_init 19 = .ok (.aload_n 0, 1) := by decide +kernel
theorem dX4_init_20 : decode cX4_init 20 = .ok (.iload_n 2, 1) := by decide +kernel
theorem dX4_init_21 : decode cX4_init 21 = .ok (.putfield 21, 3) := by decide +kernel
theorem dX4_init_24 : decode cX4_init 24 = .ok (.return_, 1) := by decide +kernel
theorem dX5_init_0 : decode cX5_init 0 = .ok (.aload_n 0, 1) := by decide +kernel
theorem dX5_init_1 : decode cX5_init 1 = .ok (.invokespecial 3, 3) := by decide +kernel
theorem dX5_init_4 : decode cX5_init 4 = .ok (.return_, 1) := by decide +kernel
theorem dX5_place_0 : decode cX5_place 0 = .ok (.aload_n 0, 1) := by decide +kernel
theorem dX5_place_1 : decode cX5_place 1 = .ok (.iconst 1, 1) := by decide +kernel
theorem dX5_place_2 : decode cX5_place 2 = .ok (.putfield 9, 3) := by decide +kernel
theorem dX5_place_5 : decode cX5_place 5 = .ok (.aload_n 0, 1) := by decide +kernel
theorem dX5_place_6 : decode cX5_place 6 = .ok (.iload_n 1, 1) := by decide +kernel
theorem dX5_place_7 : decode cX5_place 7 = .ok (.putfield 15, 3) := by decide +kernel
theorem dX5_place_10 : decode cX5_place 10 = .ok (.aload_n 0, 1) := by decide +kernel
theorem dX5_place_11 : decode cX5_place 11 = .ok (.iload_n 2, 1) := by decide +kernel
theorem dX5_place_12 : decode cX5_place 12 = .ok (.putfield 19, 3) := by decide +kernel
theorem dX5_place_15 : decode cX5_place 15 = .ok (.aload_n 0, 1) := by decide +kernel
theorem dX5_place_16 : decode cX5_place 16 = .ok (.iload_n 3, 1) := by decide +kernel
theorem dX5_place_17 : decode cX5_place 17 = .ok (.putfield 22, 3) := by decide +kernel
theorem dX5_place_20 : decode cX5_place 20 = .ok (.aload_n 0, 1) := by decide +kernel
theorem dX5_place_21 : decode cX5_place 21 = .ok (.iload 4, 2) := by decide +kernel
theorem dX5_place_23 : decode cX5_place 23 = .ok (.putfield 25, 3) := by decide +kernel
theorem dX5_place_26 : decode cX5_place 26 = .ok (.aload_n 0, 1) := by decide +kernel
theorem dX5_place_27 : decode cX5_place 27 = .ok (.iload 5, 2) := by decide +kernel
theorem dX5_place_29 : decode cX5_place 29 = .ok (.putfield 28, 3) := by decide +kernel
theorem dX5_place_32 : decode cX5_place 32 = .ok (.return_, 1) := by decide +kernel
set_option maxRecDepth 20000 in
theorem ggX5_covers_X3_hasKey : GoodIn wsX5_covers wsX3_hasKey := goodIn_r _ [14, 15, 16, 17, 29, 30, 31, 32, 33, 34, 35, 36] (by decide +kernel) (by decide +kernel)
set_option maxRecDepth 20000 in
theorem gX5_covers_X3_hasKey : GoodIn wsX5_covers (wsV RX5 42 RX3 yX3_hasKey wsX3_hasKey) := goodIn_app (goodIn_of _ (by decide +kernel)) ggX5_covers_X3_hasKey
set_option maxRecDepth 20000 in
theorem ggX5_covers_X3_isFiledFrom : GoodIn wsX5_covers wsX3_isFiledFrom := goodIn_r _ [21, 22, 29, 30, 31, 32, 33, 34, 35, 36] (by decide +kernel) (by decide +kernel)
set_option maxRecDepth 20000 in
theorem gX5_covers_X3_isFiledFrom : GoodIn wsX5_covers (wsV RX5 46 RX3 yX3_isFiledFrom wsX3_isFiledFrom) := goodIn_app (goodIn_of _ (by decide +kernel)) ggX5_covers_X3_isFiledFrom
theorem dX5_covers_0 : decode cX5_covers 0 = .ok (.aload_n 0, 1) := by decide +kernel
theorem dX5_covers_1 : decode cX5_covers 1 = .ok (.getfield 9, 3) := by decide +kernel
theorem dX5_covers_4 : decode cX5_covers 4 = .ok (.ifCond .eq 85, 3) := by decide +kernel
theorem dX5_covers_7 : decode cX5_covers 7 = .ok (.aload_n 0, 1) := by decide +kernel
theorem dX5_covers_8 : decode cX5_covers 8 = .ok (.getfield 15, 3) := by decide +kernel
theorem dX5_covers_11 : decode cX5_covers 11 = .ok (.iconst (-1), 1) := by decide +kernel
theorem dX5_covers_12 : decode cX5_covers 12 = .ok (.if_icmp .eq 17, 3) := by decide +kernel
theorem dX5_covers_15 : decode cX5_covers 15 = .ok (.aload_n 0, 1) := by decide +kernel
theorem dX5_covers_16 : decode cX5_covers 16 = .ok (.getfield 15, 3) := by decide +kernel
theorem dX5_covers_19 : decode cX5_covers 19 = .ok (.aload_n 1, 1) := by decide +kernel
theorem dX5_covers_20 : decode cX5_covers 20 = .ok (.getfield 31, 3) := by decide +kernel
theorem dX5_covers_23 : decode cX5_covers 23 = .ok (.getfield 36, 3) := by decide +kernel
theorem dX5_covers_26 : decode cX5_covers 26 = .ok (.if_icmp .ne 63, 3) := by decide +kernel
theorem dX5_covers_29 : decode cX5_covers 29 = .ok (.aload_n 0, 1) := by decide +kernel
theorem dX5_covers_30 : decode cX5_covers 30 = .ok (.getfield 19, 3) := by decide +kernel
theorem dX5_covers_33 : decode cX5_covers 33 = .ok (.iconst (-1), 1) := by decide +kernel
theorem dX5_covers_34 : decode cX5_covers 34 = .ok (.if_icmp .eq 17, 3) := by decide +kernel
theorem dX5_covers_37 : decode cX5_covers 37 = .ok (.aload_n 0, 1) := by decide +kernel
theorem dX5_covers_38 : decode cX5_covers 38 = .ok (.getfield 19, 3) := by decide +kernel
theorem dX5_covers_41 : decode cX5_covers 41 = .ok (.aload_n 1, 1) := by decide +kernel
theorem dX5_covers_42 : decode cX5_covers 42 = .ok (.getfield 31, 3) := by decide +kernel
theorem dX5_covers_45 : decode cX5_covers 45 = .ok (.getfield 41, 3) := by decide +kernel
theorem dX5_covers_48 : decode cX5_covers 48 = .ok (.if_icmp .ne 41, 3) := by decide +kernel
theorem dX5_covers_51 : decode cX5_covers 51 = .ok (.aload_n 0, 1) := by decide +kernel
theorem dX5_covers_52 : decode cX5_covers 52 = .ok (.getfield 22, 3) := by decide +kernel
theorem dX5_covers_55 : decode cX5_covers 55 = .ok (.iconst (-1), 1) := by decide +kernel
theorem dX5_covers_56 : decode cX5_covers 56 = .ok (.if_icmp .eq 14, 3) := by decide +kernel
theorem dX5_covers_59 : decode cX5_covers 59 = .ok (.aload_n 1, 1) := by decide +kernel
theorem dX5_covers_60 : decode cX5_covers 60 = .ok (.aload_n 0, 1) := by decide +kernel
theorem dX5_covers_61 : decode cX5_covers 61 = .ok (.getfield 22, 3) := by decide +kernel
theorem dX5_covers_64 : decode cX5_covers 64 = .ok (.invokevirtual 42, 3) := by decide +kernel
theorem dX5_covers_67 : decode cX5_covers 67 = .ok (.ifCond .eq 22, 3) := by decide +kernel
theorem dX5_covers_70 : decode cX5_covers 70 = .ok (.aload_n 1, 1) := by decide +kernel
theorem dX5_covers_71 : decode cX5_covers 71 = .ok (.aload_n 0, 1) := by decide +kernel
theorem dX5_covers_72 : decode cX5_covers 72 = .ok (.getfield 25, 3) := by decide +kernel
theorem dX5_covers_75 : decode cX5_covers 75 = .ok (.aload_n 0, 1) := by decide +kernel
theorem dX5_covers_76 : decode cX5_covers 76 = .ok (.getfield 28, 3) := by decide +kernel
theorem dX5_covers_79 : decode cX5_covers 79 = .ok (.invokevirtual 46, 3) := by decide +kernel
theorem dX5_covers_82 : decode cX5_covers 82 = .ok (.ifCond .eq 7, 3) := by decide +kernel
theorem dX5_covers_85 : decode cX5_covers 85 = .ok (.iconst 1, 1) := by decide +kernel
theorem dX5_covers_86 : decode cX5_covers 86 = .ok (.goto 4, 3) := by decide +kernel
theorem dX5_covers_89 : decode cX5_covers 89 = .ok (.iconst 0, 1) := by decide +kernel
theorem dX5_covers_90 : decode cX5_covers 90 = .ok (.ireturn, 1) := by decide +kernel
theorem dX6_init_0 : decode cX6_init 0 = .ok (.aload_n 0, 1) := by decide +kernel
theorem dX6_init_1 : decode cX6_init 1 = .ok (.invokespecial 3, 3) := by decide +kernel
theorem dX6_init_4 : decode cX6_init 4 = .ok (.aload_n 0, 1) := by decide +kernel
theorem dX6_init_5 : decode cX6_init 5 = .ok (.bipush 6, 2) := by decide +kernel
theorem dX6_init_7 : decode cX6_init 7 = .ok (.newarray .int, 2) := by decide +kernel
theorem dX6_init_9 : decode cX6_init 9 = .ok (.putfield 9, 3) := by decide +kernel
theorem dX6_init_12 : decode cX6_init 12 = .ok (.aload_n 0, 1) := by decide +kernel
theorem dX6_init_13 : decode cX6_init 13 = .ok (.bipush 6, 2) := by decide +kernel
theorem dX6_init_15 : decode cX6_init 15 = .ok (.newarray .int, 2) := by decide +kernel
theorem dX6_init_17 : decode cX6_init 17 = .ok (.putfield 15, 3) := by decide +kernel
theorem dX6_init_20 : decode cX6_init 20 = .ok (.aload_n 0, 1) := by decide +kernel
theorem dX6_init_21 : decode cX6_init 21 = .ok (.bipush 6, 2) := by decide +kernel
theorem dX6_init_23 : decode cX6_init 23 = .ok (.newarray .boolean, 2) := by decide +kernel
theorem dX6_init_25 : decode cX6_init 25 = .ok (.putfield 18, 3) := by decide +kernel
theorem dX6_init_28 : decode cX6_init 28 = .ok (.return_, 1) := by decide +kernel
theorem dX6_goesOnWith_0 : decode cX6_goesOnWith 0 = .ok (.aload_n 0, 1) := by decide +kernel
theorem dX6_goesOnWith_1 : decode cX6_goesOnWith 1 = .ok (.getfield 22, 3) := by decide +kernel
theorem dX6_goesOnWith_4 : decode cX6_goesOnWith 4 = .ok (.ifCond .eq 26, 3) := by decide +kernel
theorem dX6_goesOnWith_7 : decode cX6_goesOnWith 7 = .ok (.iload_n 1, 1) := by decide +kernel
theorem dX6_goesOnWith_8 : decode cX6_goesOnWith 8 = .ok (.aload_n 0, 1) := by decide +kernel
theorem dX6_goesOnWith_9 : decode cX6_goesOnWith 9 = .ok (.getfield 26, 3) := by decide +kernel
theorem dX6_goesOnWith_12 : decode cX6_goesOnWith 12 = .ok (.if_icmp .ne 22, 3) := by decide +kernel
theorem dX6_goesOnWith_15 : decode cX6_goesOnWith 15 = .ok (.iload_n 2, 1) := by decide +kernel
theorem dX6_goesOnWith_16 : decode cX6_goesOnWith 16 = .ok (.aload_n 0, 1) := by decide +kernel
theorem dX6_goesOnWith_17 : decode cX6_goesOnWith 17 = .ok (.getfield 9, 3) := by decide +kernel
theorem dX6_goesOnWith_20 : decode cX6_goesOnWith 20 = .ok (.aload_n 0, 1) := by decide +kernel
theorem dX6_goesOnWith_21 : decode cX6_goesOnWith 21 = .ok (.getfield 22, 3) := by decide +kernel
theorem dX6_goesOnWith_24 : decode cX6_goesOnWith 24 = .ok (.iconst 1, 1) := by decide +kernel
theorem dX6_goesOnWith_25 : decode cX6_goesOnWith 25 = .ok (.isub, 1) := by decide +kernel
theorem dX6_goesOnWith_26 : decode cX6_goesOnWith 26 = .ok (.iaload, 1) := by decide +kernel
theorem dX6_goesOnWith_27 : decode cX6_goesOnWith 27 = .ok (.if_icmp .lt 7, 3) := by decide +kernel
theorem dX6_goesOnWith_30 : decode cX6_goesOnWith 30 = .ok (.iconst 1, 1) := by decide +kernel
theorem dX6_goesOnWith_31 : decode cX6_goesOnWith 31 = .ok (.goto 4, 3) := by decide +kernel
theorem dX6_goesOnWith_34 : decode cX6_goesOnWith 34 = .ok (.iconst 0, 1) := by decide +kernel
theorem dX6_goesOnWith_35 : decode cX6_goesOnWith 35 = .ok (.ireturn, 1) := by decide +kernel
theorem dX6_add_0 : decode cX6_add 0 = .ok (.aload_n 0, 1) := by decide +kernel
theorem dX6_add_1 : decode cX6_add 1 = .ok (.iload_n 1, 1) := by decide +kernel
theorem dX6_add_2 : decode cX6_add 2 = .ok (.putfield 26, 3) := by decide +kernel
theorem dX6_add_5 : decode cX6_add 5 = .ok (.aload_n 0, 1) := by decide +kernel
theorem dX6_add_6 : decode cX6_add 6 = .ok (.getfield 9, 3) := by decide +kernel
theorem dX6_add_9 : decode cX6_add 9 = .ok (.aload_n 0, 1) := by decide +kernel
theorem dX6_add_10 : decode cX6_add 10 = .ok (.getfield 22, 3) := by decide +kernel
theorem dX6_add_13 : decode cX6_add 13 = .ok (.iload 4, 2) := by decide +kernel
theorem dX6_add_15 : decode cX6_add 15 = .ok (.iastore, 1) := by decide +kernel
theorem dX6_add_16 : decode cX6_add 16 = .ok (.aload_n 0, 1) := by decide +kernel
theorem dX6_add_17 : decode cX6_add 17 = .ok (.getfield 15, 3) := by decide +kernel
theorem dX6_add_20 : decode cX6_add 20 = .ok (.aload_n 0, 1) := by decide +kernel
theorem dX6_add_21 : decode cX6_add 21 = .ok (.getfield 22, 3) := by decide +kernel
theorem dX6_add_24 : decode cX6_add 24 = .ok (.iload_n 2, 1) := by decide +kernel
theorem dX6_add_25 : decode cX6_add 25 = .ok (.iastore, 1) := by decide +kernel
theorem dX6_add_26 : decode cX6_add 26 = .ok (.aload_n 0, 1) := by decide +kernel
theorem dX6_add_27 : decode cX6_add 27 = .ok (.getfield 18, 3) := by decide +kernel
theorem dX6_add_30 : decode cX6_add 30 = .ok (.aload_n 0, 1) := by decide +kernel
theorem dX6_add_31 : decode cX6_add 31 = .ok (.getfield 22, 3) := by decide +kernel
theorem dX6_add_34 : decode cX6_add 34 = .ok (.iload_n 3, 1) := by decide +kernel
theorem dX6_add_35 : decode cX6_add 35 = .ok (.bastore, 1) := by decide +kernel
theorem dX6_add_36 : decode cX6_add 36 = .ok (.aload_n 0, 1) := by decide +kernel
theorem dX6_add_37 : decode cX6_add 37 = .ok (.dup, 1) := by decide +kernel
theorem dX6_add_38 : decode cX6_add 38 = .ok (.getfield 22, 3) := by decide +kernel
theorem dX6_add_41 : decode cX6_add 41 = .ok (.iconst 1, 1) := by decide +kernel
theorem dX6_add_42 : decode cX6_add 42 = .ok (.iadd, 1) := by decide +kernel
theorem dX6_add_43 : decode cX6_add 43 = .ok (.putfield 22, 3) := by decide +kernel
theorem dX6_add_46 : decode cX6_add 46 = .ok (.return_, 1) := by decide +kernel
theorem dX6_termFor_0 : decode cX6_termFor 0 = .ok (.iconst 0, 1) := by decide +kernel
theorem dX6_termFor_1 : decode cX6_termFor 1 = .ok (.istore_n 2, 1) := by decide +kernel
theorem dX6_termFor_2 : decode cX6_termFor 2 = .ok (.iconst 1, 1) := by decide +kernel
theorem dX6_termFor_3 : decode cX6_termFor 3 = .ok (.istore_n 3, 1) := by decide +kernel
theorem dX6_termFor_4 : decode cX6_termFor 4 = .ok (.iload_n 3, 1) := by decide +kernel
theorem dX6_termFor_5 : decode cX6_termFor 5 = .ok (.aload_n 0, 1) := by decide +kernel
theorem dX6_termFor_6 : decode cX6_termFor 6 = .ok (.getfield 22, 3) := by decide +kernel
theorem dX6_termFor_9 : decode cX6_termFor 9 = .ok (.if_icmp .ge 30, 3) := by decide +kernel
theorem dX6_termFor_12 : decode cX6_termFor 12 = .ok (.aload_n 0, 1) := by decide +kernel
theorem dX6_termFor_13 : decode cX6_termFor 13 = .ok (.getfield 9, 3) := by decide +kernel
theorem dX6_termFor_16 : decode cX6_termFor 16 = .ok (.iload_n 3, 1) := by decide +kernel
theorem dX6_termFor_17 : decode cX6_termFor 17 = .ok (.iaload, 1) := by decide +kernel
theorem dX6_termFor_18 : decode cX6_termFor 18 = .ok (.iload_n 1, 1) := by decide +kernel
theorem dX6_termFor_19 : decode cX6_termFor 19 = .ok (.if_icmp .le 12, 3) := by decide +kernel
theorem dX6_termFor_22 : decode cX6_termFor 22 = .ok (.aload_n 0, 1) := by decide +kernel
theorem dX6_termFor_23 : decode cX6_termFor 23 = .ok (.getfield 18, 3) := by decide +kernel
theorem dX6_termFor_26 : decode cX6_termFor 26 = .ok (.iload_n 3, 1) := by decide +kernel
theorem dX6_termFor_27 : decode cX6_termFor 27 = .ok (.baload, 1) := by decide +kernel
theorem dX6_termFor_28 : decode cX6_termFor 28 = .ok (.ifCond .eq 5, 3) := by decide +kernel
theorem dX6_termFor_31 : decode cX6_termFor 31 = .ok (.iload_n 3, 1) := by decide +kernel
theorem dX6_termFor_32 : decode cX6_termFor 32 = .ok (.istore_n 2, 1) := by decide +kernel
theorem dX6_termFor_33 : decode cX6_termFor 33 = .ok (.iinc 3 1, 3) := by decide +kernel
theorem dX6_termFor_36 : decode cX6_termFor 36 = .ok (.goto (-32), 3) := by decide +kernel
theorem dX6_termFor_39 : decode cX6_termFor 39 = .ok (.aload_n 0, 1) := by decide +kernel
theorem dX6_termFor_40 : decode cX6_termFor 40 = .ok (.getfield 15, 3) := by decide +kernel
theorem dX6_termFor_43 : decode cX6_termFor 43 = .ok (.iload_n 2, 1) := by decide +kernel
theorem dX6_termFor_44 : decode cX6_termFor 44 = .ok (.iaload, 1) := by decide +kernel
theorem dX6_termFor_45 : decode cX6_termFor 45 = .ok (.ireturn, 1) := by decide +kernel
set_option maxRecDepth 20000 in
theorem ggX7_init_X0_init : GoodIn wsX7_init wsX0_init := goodIn_r _ [26, 27, 2, 3, 4, 28, 29, 30, 52, 53, 54] (by decide +kernel) (by decide +kernel)
set_option maxRecDepth 20000 in
theorem gX7_init_X0_init_n45 : GoodIn wsX7_init (wsX0_init) := ggX7_init_X0_init
set_option maxRecDepth 20000 in
theorem ggX7_init_X6_init : GoodIn wsX7_init wsX6_init := goodIn_r _ [32, 33, 2, 3, 4, 34, 35, 36, 37, 55, 56, 57, 58, 59] (by decide +kernel) (by decide +kernel)
set_option maxRecDepth 20000 in
theorem gX7_init_X6_init_n54 : GoodIn wsX7_init (wsX6_init) := ggX7_init_X6_init
set_option maxRecDepth 20000 in
theorem ggX7_init_X5_init : GoodIn wsX7_init wsX5_init := goodIn_r _ [39, 40, 2, 3] (by decide +kernel) (by decide +kernel)
set_option maxRecDepth 20000 in
theorem gX7_init_X5_init_n55 : GoodIn wsX7_init (wsX5_init) := ggX7_init_X5_init
theorem dX7_init_0 : decode cX7_init 0 = .ok (.aload_n 0, 1) := by decide +kernel
theorem dX7_init_1 : decode cX7_init 1 = .ok (.invokespecial 1, 3) := by decide +kernel
theorem dX7_init_4 : decode cX7_init 4 = .ok (.aload_n 0, 1) := by decide +kernel
theorem dX7_init_5 : decode cX7_init 5 = .ok (.bipush 8, 2) := by decide +kernel
theorem dX7_init_7 : decode cX7_init 7 = .ok (.newarray .int, 2) := by decide +kernel
theorem dX7_init_9 : decode cX7_init 9 = .ok (.putfield 9, 3) := by decide +kernel
theorem dX7_init_12 : decode cX7_init 12 = .ok (.aload_n 0, 1) := by decide +kernel
theorem dX7_init_13 : decode cX7_init 13 = .ok (.bipush 8, 2) := by decide +kernel
theorem dX7_init_15 : decode cX7_init 15 = .ok (.anewarray 13, 3) := by decide +kernel
theorem dX7_init_18 : decode cX7_init 18 = .ok (.putfield 15, 3) := by decide +kernel
theorem dX7_init_21 : decode cX7_init 21 = .ok (.aload_n 0, 1) := by decide +kernel
theorem dX7_init_22 : decode cX7_init 22 = .ok (.bipush 16, 2) := by decide +kernel
theorem dX7_init_24 : decode cX7_init 24 = .ok (.anewarray 19, 3) := by decide +kernel
theorem dX7_init_27 : decode cX7_init 27 = .ok (.putfield 21, 3) := by decide +kernel
theorem dX7_init_30 : decode cX7_init 30 = .ok (.aload_n 0, 1) := by decide +kernel
theorem dX7_init_31 : decode cX7_init 31 = .ok (.bipush 8, 2) := by decide +kernel
theorem dX7_init_33 : decode cX7_init 33 = .ok (.anewarray 25, 3) := by decide +kernel
theorem dX7_init_36 : decode cX7_init 36 = .ok (.putfield 27, 3) := by decide +kernel
theorem dX7_init_39 : decode cX7_init 39 = .ok (.aload_n 0, 1) := by decide +kernel
theorem dX7_init_40 : decode cX7_init 40 = .ok (.bipush 64, 2) := by decide +kernel
theorem dX7_init_42 : decode cX7_init 42 = .ok (.anewarray 31, 3) := by decide +kernel
theorem dX7_init_45 : decode cX7_init 45 = .ok (.putfield 33, 3) := by decide +kernel
theorem dX7_init_48 : decode cX7_init 48 = .ok (.aload_n 0, 1) := by decide +kernel
theorem dX7_init_49 : decode cX7_init 49 = .ok (.bipush 16, 2) := by decide +kernel
theorem dX7_init_51 : decode cX7_init 51 = .ok (.anewarray 37, 3) := by decide +kernel
theorem dX7_init_54 : decode cX7_init 54 = .ok (.putfield 39, 3) := by decide +kernel
theorem dX7_init_57 : decode cX7_init 57 = .ok (.aload_n 0, 1) := by decide +kernel
theorem dX7_init_58 : decode cX7_init 58 = .ok (.new 43, 3) := by decide +kernel
theorem dX7_init_61 : decode cX7_init 61 = .ok (.dup, 1) := by decide +kernel
theorem dX7_init_62 : decode cX7_init 62 = .ok (.invokespecial 45, 3) := by decide +kernel
theorem dX7_init_65 : decode cX7_init 65 = .ok (.putfield 46, 3) := by decide +kernel
theorem dX7_init_68 : decode cX7_init 68 = .ok (.aload_n 0, 1) := by decide +kernel
theorem dX7_init_69 : decode cX7_init 69 = .ok (.iconst 1, 1) := by decide +kernel
theorem dX7_init_70 : decode cX7_init 70 = .ok (.putfield 50, 3) := by decide +kernel
theorem dX7_init_73 : decode cX7_init 73 = .ok (.iconst 0, 1) := by decide +kernel
theorem dX7_init_74 : decode cX7_init 74 = .ok (.istore_n 1, 1) := by decide +kernel
theorem dX7_init_75 : decode cX7_init 75 = .ok (.iload_n 1, 1) := by decide +kernel
theorem dX7_init_76 : decode cX7_init 76 = .ok (.bipush 8, 2) := by decide +kernel
theorem dX7_init_78 : decode cX7_init 78 = .ok (.if_icmp .ge 22, 3) := by decide +kernel
theorem dX7_init_81 : decode cX7_init 81 = .ok (.aload_n 0, 1) := by decide +kernel
theorem dX7_init_82 : decode cX7_init 82 = .ok (.getfield 15, 3) := by decide +kernel
theorem dX7_init_85 : decode cX7_init 85 = .ok (.iload_n 1, 1) := by decide +kernel
theorem dX7_init_86 : decode cX7_init 86 = .ok (.new 13, 3) := by decide +kernel
theorem dX7_init_89 : decode cX7_init 89 = .ok (.dup, 1) := by decide +kernel
theorem dX7_init_90 : decode cX7_init 90 = .ok (.invokespecial 54, 3) := by decide +kernel
theorem dX7_init_93 : decode cX7_init 93 = .ok (.aastore, 1) := by decide +kernel
theorem dX7_init_94 : decode cX7_init 94 = .ok (.iinc 1 1, 3) := by decide +kernel
theorem dX7_init_97 : decode cX7_init 97 = .ok (.goto (-22), 3) := by decide +kernel
theorem dX7_init_100 : decode cX7_init 100 = .ok (.iconst 0, 1) := by decide +kernel
theorem dX7_init_101 : decode cX7_init 101 = .ok (.istore_n 1, 1) := by decide +kernel
theorem dX7_init_102 : decode cX7_init 102 = .ok (.iload_n 1, 1) := by decide +kernel
theorem dX7_init_103 : decode cX7_init 103 = .ok (.bipush 8, 2) := by decide +kernel
theorem dX7_init_105 : decode cX7_init 105 = .ok (.if_icmp .ge 22, 3) := by decide +kernel
theorem dX7_init_108 : decode cX7_init 108 = .ok (.aload_n 0, 1) := by decide +kernel
theorem dX7_init_109 : decode cX7_init 109 = .ok (.getfield 27, 3) := by decide +kernel
theorem dX7_init_112 : decode cX7_init 112 = .ok (.iload_n 1, 1) := by decide +kernel
theorem dX7_init_113 : decode cX7_init 113 = .ok (.new 25, 3) := by decide +kernel
theorem dX7_init_116 : decode cX7_init 116 = .ok (.dup, 1) := by decide +kernel
theorem dX7_init_117 : decode cX7_init 117 = .ok (.invokespecial 55, 3) := by decide +kernel
theorem dX7_init_120 : decode cX7_init 120 = .ok (.aastore, 1) := by decide +kernel
theorem dX7_init_121 : decode cX7_init 121 = .ok (.iinc 1 1, 3) := by decide +kernel
theorem dX7_init_124 : decode cX7_init 124 = .ok (.goto (-22), 3) := by decide +kernel
theorem dX7_init_127 : decode cX7_init 127 = .ok (.return_, 1) := by decide +kernel
theorem dX7_officer_0 : decode cX7_officer 0 = .ok (.iload_n 1, 1) := by decide +kernel
theorem dX7_officer_1 : decode cX7_officer 1 = .ok (.invokestatic 56, 3) := by decide +kernel
theorem dX7_officer_4 : decode cX7_officer 4 = .ok (.iload_n 2, 1) := by decide +kernel
theorem dX7_officer_5 : decode cX7_officer 5 = .ok (.ifCond .lt 9, 3) := by decide +kernel
theorem dX7_officer_8 : decode cX7_officer 8 = .ok (.iload_n 2, 1) := by decide +kernel
theorem dX7_officer_9 : decode cX7_officer 9 = .ok (.bipush 7, 2) := by decide +kernel
theorem dX7_officer_11 : decode cX7_officer 11 = .ok (.if_icmp .le 13, 3) := by decide +kernel
theorem dX7_officer_14 : decode cX7_officer 14 = .ok (.new 60, 3) := by decide +kernel
theorem dX7_officer_17 : decode cX7_officer 17 = .ok (.dup, 1) := by decide +kernel
theorem dX7_officer_18 : decode cX7_officer 18 = .ok (.ldc 62, 2) := by decide +kernel
theorem dX7_officer_20 : decode cX7_officer 20 = .ok (.invokespecial 64, 3) := by decide +kernel
theorem dX7_officer_23 : decode cX7_officer 23 = .ok (.athrow, 1) := by decide +kernel
theorem dX7_officer_24 : decode cX7_officer 24 = .ok (.aload_n 0, 1) := by decide +kernel
theorem dX7_officer_25 : decode cX7_officer 25 = .ok (.getfield 9, 3) := by decide +kernel
theorem dX7_officer_28 : decode cX7_officer 28 = .ok (.iload_n 1, 1) := by decide +kernel
theorem dX7_officer_29 : decode cX7_officer 29 = .ok (.iload_n 2, 1) := by decide +kernel
theorem dX7_officer_30 : decode cX7_officer 30 = .ok (.iastore, 1) := by decide +kernel
theorem dX7_officer_31 : decode cX7_officer 31 = .ok (.return_, 1) := by decide +kernel
theorem dX7_version_0 : decode cX7_version 0 = .ok (.iload_n 1, 1) := by decide +kernel
theorem dX7_version_1 : decode cX7_version 1 = .ok (.invokestatic 67, 3) := by decide +kernel
theorem dX7_version_4 : decode cX7_version 4 = .ok (.iload_n 3, 1) := by decide +kernel
theorem dX7_version_5 : decode cX7_version 5 = .ok (.iload 4, 2) := by decide +kernel
theorem dX7_version_7 : decode cX7_version 7 = .ok (.invokestatic 70, 3) := by decide +kernel
theorem dX7_version_10 : decode cX7_version 10 = .ok (.iload 6, 2) := by decide +kernel
theorem dX7_version_12 : decode cX7_version 12 = .ok (.invokestatic 74, 3) := by decide +kernel
theorem dX7_version_15 : decode cX7_version 15 = .ok (.aload_n 0, 1) := by decide +kernel
theorem dX7_version_16 : decode cX7_version 16 = .ok (.getfield 15, 3) := by decide +kernel
theorem dX7_version_19 : decode cX7_version 19 = .ok (.iload_n 1, 1) := by decide +kernel
theorem dX7_version_20 : decode cX7_version 20 = .ok (.aaload, 1) := by decide +kernel
theorem dX7_version_21 : decode cX7_version 21 = .ok (.astore 7, 2) := by decide +kernel
theorem dX7_version_23 : decode cX7_version 23 = .ok (.iload_n 2, 1) := by decide +kernel
theorem dX7_version_24 : decode cX7_version 24 = .ok (.ifCond .lt 19, 3) := by decide +kernel
theorem dX7_version_27 : decode cX7_version 27 = .ok (.iload_n 2, 1) := by decide +kernel
theorem dX7_version_28 : decode cX7_version 28 = .ok (.iconst 3, 1) := by decide +kernel
theorem dX7_version_29 : decode cX7_version 29 = .ok (.if_icmp .gt 14, 3) := by decide +kernel
theorem dX7_version_32 : decode cX7_version 32 = .ok (.aload 7, 2) := by decide +kernel
theorem dX7_version_34 : decode cX7_version 34 = .ok (.iload_n 2, 1) := by decide +kernel
theorem dX7_version_35 : decode cX7_version 35 = .ok (.iload 6, 2) := by decide +kernel
theorem dX7_version_37 : decode cX7_version 37 = .ok (.invokevirtual 77, 3) := by decide +kernel
theorem dX7_version_40 : decode cX7_version 40 = .ok (.ifCond .ne 13, 3) := by decide +kernel
theorem dX7_version_43 : decode cX7_version 43 = .ok (.new 60, 3) := by decide +kernel
theorem dX7_version_46 : decode cX7_version 46 = .ok (.dup, 1) := by decide +kernel
theorem dX7_version_47 : decode cX7_version 47 = .ok (.ldc 81, 2) := by decide +kernel
theorem dX7_version_49 : decode cX7_version 49 = .ok (.invokespecial 64, 3) := by decide +kernel
theorem dX7_version_52 : decode cX7_version 52 = .ok (.athrow, 1) := by decide +kernel
theorem dX7_version_53 : decode cX7_version 53 = .ok (.aload_n 0, 1) := by decide +kernel
theorem dX7_version_54 : decode cX7_version 54 = .ok (.iconst 1, 1) := by decide +kernel
theorem dX7_version_55 : decode cX7_version 55 = .ok (.invokevirtual 83, 3) := by decide +kernel
theorem dX7_version_58 : decode cX7_version 58 = .ok (.aload 7, 2) := by decide +kernel
theorem dX7_version_60 : decode cX7_version 60 = .ok (.getfield 86, 3) := by decide +kernel
theorem dX7_version_63 : decode cX7_version 63 = .ok (.bipush 6, 2) := by decide +kernel
theorem dX7_version_65 : decode cX7_version 65 = .ok (.if_icmp .lt 13, 3) := by decide +kernel
theorem dX7_version_68 : decode cX7_version 68 = .ok (.new 89, 3) := by decide +kernel
theorem dX7_version_71 : decode cX7_version 71 = .ok (.dup, 1) := by decide +kernel
theorem dX7_version_72 : decode cX7_version 72 = .ok (.ldc 91, 2) := by decide +kernel
theorem dX7_version_74 : decode cX7_version 74 = .ok (.invokespecial 93, 3) := by decide +kernel
theorem dX7_version_77 : decode cX7_version 77 = .ok (.athrow, 1) := by decide +kernel
theorem dX7_version_78 : decode cX7_version 78 = .ok (.iload_n 3, 1) := by decide +kernel
theorem dX7_version_79 : decode cX7_version 79 = .ok (.bipush 12, 2) := by decide +kernel
theorem dX7_version_81 : decode cX7_version 81 = .ok (.imul, 1) := by decide +kernel
theorem dX7_version_82 : decode cX7_version 82 = .ok (.iload 4, 2) := by decide +kernel
theorem dX7_version_84 : decode cX7_version 84 = .ok (.iadd, 1) := by decide +kernel
theorem dX7_version_85 : decode cX7_version 85 = .ok (.istore 8, 2) := by decide +kernel
theorem dX7_version_87 : decode cX7_version 87 = .ok (.aload 7, 2) := by decide +kernel
theorem dX7_version_89 : decode cX7_version 89 = .ok (.iload_n 2, 1) := by decide +kernel
theorem dX7_version_90 : decode cX7_version 90 = .ok (.iload 8, 2) := by decide +kernel
theorem dX7_version_92 : decode cX7_version 92 = .ok (.iload 5, 2) := by decide +kernel
theorem dX7_version_94 : decode cX7_version 94 = .ok (.iload 6, 2) := by decide +kernel
theorem dX7_version_96 : decode cX7_version 96 = .ok (.invokevirtual 94, 3) := by decide +kernel
theorem dX7_version_99 : decode cX7_version 99 = .ok (.aload_n 0, 1) := by decide +kernel
theorem dX7_version_100 : decode cX7_version 100 = .ok (.getfield 46, 3) := by decide +kernel
theorem dX7_version_103 : decode cX7_version 103 = .ok (.iconst 1, 1) := by decide +kernel
theorem dX7_version_104 : decode cX7_version 104 = .ok (.iload_n 1, 1) := by decide +kernel
theorem dX7_version_105 : decode cX7_version 105 = .ok (.iload 8, 2) := by decide +kernel
theorem dX7_version_107 : decode cX7_version 107 = .ok (.iload 6, 2) := by decide +kernel
theorem dX7_version_109 : decode cX7_version 109 = .ok (.lconst 0, 1) := by decide +kernel
theorem dX7_version_110 : decode cX7_version 110 = .ok (.invokevirtual 98, 3) := by decide +kernel
theorem dX7_version_113 : decode cX7_version 113 = .ok (.aload 7, 2) := by decide +kernel
theorem dX7_version_115 : decode cX7_version 115 = .ok (.getfield 86, 3) := by decide +kernel
theorem dX7_version_118 : decode cX7_version 118 = .ok (.ireturn, 1) := by decide +kernel
theorem dX7_fiscal_0 : decode cX7_fiscal 0 = .ok (.iload_n 1, 1) := by decide +kernel
theorem dX7_fiscal_1 : decode cX7_fiscal 1 = .ok (.iconst 1, 1) := by decide +kernel
theorem dX7_fiscal_2 : decode cX7_fiscal 2 = .ok (.if_icmp .lt 9, 3) := by decide +kernel
theorem dX7_fiscal_5 : decode cX7_fiscal 5 = .ok (.iload_n 1, 1) := by decide +kernel
theorem dX7_fiscal_6 : decode cX7_fiscal 6 = .ok (.bipush 12, 2) := by decide +kernel
theorem dX7_fiscal_8 : decode cX7_fiscal 8 = .ok (.if_icmp .le 13, 3) := by decide +kernel
theorem dX7_fiscal_11 : decode cX7_fiscal 11 = .ok (.new 60, 3) := by decide +kernel
theorem dX7_fiscal_14 : decode cX7_fiscal 14 = .ok (.dup, 1) := by decide +kernel
theorem dX7_fiscal_15 : decode cX7_fiscal 15 = .ok (.ldc 102, 2) := by decide +kernel
theorem dX7_fiscal_17 : decode cX7_fiscal 17 = .ok (.invokespecial 64, 3) := by decide +kernel
theorem dX7_fiscal_20 : decode cX7_fiscal 20 = .ok (.athrow, 1) := by decide +kernel
theorem dX7_fiscal_21 : decode cX7_fiscal 21 = .ok (.aload_n 0, 1) := by decide +kernel
theorem dX7_fiscal_22 : decode cX7_fiscal 22 = .ok (.getfield 104, 3) := by decide +kernel
theorem dX7_fiscal_25 : decode cX7_fiscal 25 = .ok (.ifCond .le 13, 3) := by decide +kernel
theorem dX7_fiscal_28 : decode cX7_fiscal 28 = .ok (.new 89, 3) := by decide +kernel
theorem dX7_fiscal_31 : decode cX7_fiscal 31 = .ok (.dup, 1) := by decide +kernel
theorem dX7_fiscal_32 : decode cX7_fiscal 32 = .ok (.ldc 107, 2) := by decide +kernel
theorem dX7_fiscal_34 : decode cX7_fiscal 34 = .ok (.invokespecial 93, 3) := by decide +kernel
theorem dX7_fiscal_37 : decode cX7_fiscal 37 = .ok (.athrow, 1) := by decide +kernel
theorem dX7_fiscal_38 : decode cX7_fiscal 38 = .ok (.aload_n 0, 1) := by decide +kernel
theorem dX7_fiscal_39 : decode cX7_fiscal 39 = .ok (.iload_n 1, 1) := by decide +kernel
theorem dX7_fiscal_40 : decode cX7_fiscal 40 = .ok (.putfield 50, 3) := by decide +kernel
theorem dX7_fiscal_43 : decode cX7_fiscal 43 = .ok (.return_, 1) := by decide +kernel
theorem dX7_open_0 : decode cX7_open 0 = .ok (.iload_n 1, 1) := by decide +kernel
theorem dX7_open_1 : decode cX7_open 1 = .ok (.ifCond .lt 9, 3) := by decide +kernel
theorem dX7_open_4 : decode cX7_open 4 = .ok (.iload_n 1, 1) := by decide +kernel
theorem dX7_open_5 : decode cX7_open 5 = .ok (.bipush 16, 2) := by decide +kernel
theorem dX7_open_7 : decode cX7_open 7 = .ok (.if_icmp .lt 13, 3) := by decide +kernel
theorem dX7_open_10 : decode cX7_open 10 = .ok (.new 109, 3) := by decide +kernel
theorem dX7_open_13 : decode cX7_open 13 = .ok (.dup, 1) := by decide +kernel
theorem dX7_open_14 : decode cX7_open 14 = .ok (.ldc 111, 2) := by decide +kernel
theorem dX7_open_16 : decode cX7_open 16 = .ok (.invokespecial 113, 3) := by decide +kernel
theorem dX7_open_19 : decode cX7_open 19 = .ok (.athrow, 1) := by decide +kernel
theorem dX7_open_20 : decode cX7_open 20 = .ok (.iload_n 2, 1) := by decide +kernel
theorem dX7_open_21 : decode cX7_open 21 = .ok (.invokestatic 67, 3) := by decide +kernel
theorem dX7_open_24 : decode cX7_open 24 = .ok (.aload_n 0, 1) := by decide +kernel
theorem dX7_open_25 : decode cX7_open 25 = .ok (.iconst 1, 1) := by decide +kernel
theorem dX7_open_26 : decode cX7_open 26 = .ok (.invokevirtual 83, 3) := by decide +kernel
theorem dX7_open_29 : decode cX7_open 29 = .ok (.aload_n 0, 1) := by decide +kernel
theorem dX7_open_30 : decode cX7_open 30 = .ok (.getfield 21, 3) := by decide +kernel
theorem dX7_open_33 : decode cX7_open 33 = .ok (.iload_n 1, 1) := by decide +kernel
theorem dX7_open_34 : decode cX7_open 34 = .ok (.aaload, 1) := by decide +kernel
theorem dX7_open_35 : decode cX7_open 35 = .ok (.ifnonnull 15, 3) := by decide +kernel
theorem dX7_open_38 : decode cX7_open 38 = .ok (.aload_n 0, 1) := by decide +kernel
theorem dX7_open_39 : decode cX7_open 39 = .ok (.getfield 15, 3) := by decide +kernel
theorem dX7_open_42 : decode cX7_open 42 = .ok (.iload_n 2, 1) := by decide +kernel
theorem dX7_open_43 : decode cX7_open 43 = .ok (.aaload, 1) := by decide +kernel
theorem dX7_open_44 : decode cX7_open 44 = .ok (.getfield 86, 3) := by decide +kernel
theorem dX7_open_47 : decode cX7_open 47 = .ok (.ifCond .ne 13, 3) := by decide +kernel
theorem dX7_open_50 : decode cX7_open 50 = .ok (.new 89, 3) := by decide +kernel
theorem dX7_open_53 : decode cX7_open 53 = .ok (.dup, 1) := by decide +kernel
theorem dX7_open_54 : decode cX7_open 54 = .ok (.ldc 114, 2) := by decide +kernel
theorem dX7_open_56 : decode cX7_open 56 = .ok (.invokespecial 93, 3) := by decide +kernel
theorem dX7_open_59 : decode cX7_open 59 = .ok (.athrow, 1) := by decide +kernel
theorem dX7_open_60 : decode cX7_open 60 = .ok (.aload_n 0, 1) := by decide +kernel
theorem dX7_open_61 : decode cX7_open 61 = .ok (.getfield 21, 3) := by decide +kernel
theorem dX7_open_64 : decode cX7_open 64 = .ok (.iload_n 1, 1) := by decide +kernel
theorem dX7_open_65 : decode cX7_open 65 = .ok (.new 19, 3) := by decide +kernel
theorem dX7_open_68 : decode cX7_open 68 = .ok (.dup, 1) := by decide +kernel
theorem dX7_open_69 : decode cX7_open 69 = .ok (.iload_n 1, 1) := by decide +kernel
theorem dX7_open_70 : decode cX7_open 70 = .ok (.iload_n 2, 1) := by decide +kernel
theorem dX7_open_71 : decode cX7_open 71 = .ok (.invokespecial 116, 3) := by decide +kernel
theorem dX7_open_74 : decode cX7_open 74 = .ok (.aastore, 1) := by decide +kernel
theorem dX7_open_75 : decode cX7_open 75 = .ok (.aload_n 0, 1) := by decide +kernel
theorem dX7_open_76 : decode cX7_open 76 = .ok (.getfield 46, 3) := by decide +kernel
theorem dX7_open_79 : decode cX7_open 79 = .ok (.iconst 2, 1) := by decide +kernel
theorem dX7_open_80 : decode cX7_open 80 = .ok (.iload_n 1, 1) := by decide +kernel
theorem dX7_open_81 : decode cX7_open 81 = .ok (.iload_n 2, 1) := by decide +kernel
theorem dX7_open_82 : decode cX7_open 82 = .ok (.iconst 0, 1) := by decide +kernel
theorem dX7_open_83 : decode cX7_open 83 = .ok (.lconst 0, 1) := by decide +kernel
theorem dX7_open_84 : decode cX7_open 84 = .ok (.invokevirtual 98, 3) := by decide +kernel
theorem dX7_open_87 : decode cX7_open 87 = .ok (.return_, 1) := by decide +kernel
theorem dX7_close_0 : decode cX7_close 0 = .ok (.aload_n 0, 1) := by decide +kernel
theorem dX7_close_1 : decode cX7_close 1 = .ok (.iload_n 1, 1) := by decide +kernel
theorem dX7_close_2 : decode cX7_close 2 = .ok (.invokevirtual 118, 3) := by decide +kernel
theorem dX7_close_5 : decode cX7_close 5 = .ok (.astore_n 3, 1) := by decide +kernel
theorem dX7_close_6 : decode cX7_close 6 = .ok (.aload_n 0, 1) := by decide +kernel
theorem dX7_close_7 : decode cX7_close 7 = .ok (.iload_n 2, 1) := by decide +kernel
theorem dX7_close_8 : decode cX7_close 8 = .ok (.invokevirtual 122, 3) := by decide +kernel
theorem dX7_close_11 : decode cX7_close 11 = .ok (.aload_n 0, 1) := by decide +kernel
theorem dX7_close_12 : decode cX7_close 12 = .ok (.iconst 1, 1) := by decide +kernel
theorem dX7_close_13 : decode cX7_close 13 = .ok (.invokevirtual 83, 3) := by decide +kernel
theorem dX7_close_16 : decode cX7_close 16 = .ok (.aload_n 3, 1) := by decide +kernel
theorem dX7_close_17 : decode cX7_close 17 = .ok (.getfield 125, 3) := by decide +kernel
theorem dX7_close_20 : decode cX7_close 20 = .ok (.iconst (-1), 1) := by decide +kernel
theorem dX7_close_21 : decode cX7_close 21 = .ok (.if_icmp .eq 13, 3) := by decide +kernel
theorem dX7_close_24 : decode cX7_close 24 = .ok (.new 89, 3) := by decide +kernel
theorem dX7_close_27 : decode cX7_close 27 = .ok (.dup, 1) := by decide +kernel
theorem dX7_close_28 : decode cX7_close 28 = .ok (.ldc 128, 2) := by decide +kernel
theorem dX7_close_30 : decode cX7_close 30 = .ok (.invokespecial 93, 3) := by decide +kernel
theorem dX7_close_33 : decode cX7_close 33 = .ok (.athrow, 1) := by decide +kernel
theorem dX7_close_34 : decode cX7_close 34 = .ok (.aload_n 3, 1) := by decide +kernel
theorem dX7_close_35 : decode cX7_close 35 = .ok (.iload_n 2, 1) := by decide +kernel
theorem dX7_close_36 : decode cX7_close 36 = .ok (.putfield 125, 3) := by decide +kernel
theorem dX7_close_39 : decode cX7_close 39 = .ok (.aload_n 0, 1) := by decide +kernel
theorem dX7_close_40 : decode cX7_close 40 = .ok (.iload_n 2, 1) := by decide +kernel
theorem dX7_close_41 : decode cX7_close 41 = .ok (.putfield 130, 3) := by decide +kernel
theorem dX7_close_44 : decode cX7_close 44 = .ok (.aload_n 0, 1) := by decide +kernel
theorem dX7_close_45 : decode cX7_close 45 = .ok (.getfield 46, 3) := by decide +kernel
theorem dX7_close_48 : decode cX7_close 48 = .ok (.iconst 3, 1) := by decide +kernel
theorem dX7_close_49 : decode cX7_close 49 = .ok (.iload_n 1, 1) := by decide +kernel
theorem dX7_close_50 : decode cX7_close 50 = .ok (.iload_n 2, 1) := by decide +kernel
theorem dX7_close_51 : decode cX7_close 51 = .ok (.iconst 0, 1) := by decide +kernel
theorem dX7_close_52 : decode cX7_close 52 = .ok (.lconst 0, 1) := by decide +kernel
theorem dX7_close_53 : decode cX7_close 53 = .ok (.invokevirtual 98, 3) := by decide +kernel
theorem dX7_close_56 : decode cX7_close 56 = .ok (.return_, 1) := by decide +kernel
theorem dX7_left_0 : decode cX7_left 0 = .ok (.aload_n 0, 1) := by decide +kernel
theorem dX7_left_1 : decode cX7_left 1 = .ok (.iload_n 1, 1) := by decide +kernel
theorem dX7_left_2 : decode cX7_left 2 = .ok (.invokevirtual 118, 3) := by decide +kernel
theorem dX7_left_5 : decode cX7_left 5 = .ok (.astore_n 3, 1) := by decide +kernel
theorem dX7_left_6 : decode cX7_left 6 = .ok (.aload_n 0, 1) := by decide +kernel
theorem dX7_left_7 : decode cX7_left 7 = .ok (.iload_n 2, 1) := by decide +kernel
theorem dX7_left_8 : decode cX7_left 8 = .ok (.invokevirtual 122, 3) := by decide +kernel
theorem dX7_left_11 : decode cX7_left 11 = .ok (.aload_n 0, 1) := by decide +kernel
theorem dX7_left_12 : decode cX7_left 12 = .ok (.iconst 1, 1) := by decide +kernel
theorem dX7_left_13 : decode cX7_left 13 = .ok (.invokevirtual 83, 3) := by decide +kernel
theorem dX7_left_16 : decode cX7_left 16 = .ok (.aload_n 3, 1) := by decide +kernel
theorem dX7_left_17 : decode cX7_left 17 = .ok (.getfield 133, 3) := by decide +kernel
theorem dX7_left_20 : decode cX7_left 20 = .ok (.iconst (-1), 1) := by decide +kernel
theorem dX7_left_21 : decode cX7_left 21 = .ok (.if_icmp .eq 13, 3) := by decide +kernel
theorem dX7_left_24 : decode cX7_left 24 = .ok (.new 89, 3) := by decide +kernel
theorem dX7_left_27 : decode cX7_left 27 = .ok (.dup, 1) := by decide +kernel
theorem dX7_left_28 : decode cX7_left 28 = .ok (.ldc 136, 2) := by decide +kernel
theorem dX7_left_30 : decode cX7_left 30 = .ok (.invokespecial 93, 3) := by decide +kernel
theorem dX7_left_33 : decode cX7_left 33 = .ok (.athrow, 1) := by decide +kernel
theorem dX7_left_34 : decode cX7_left 34 = .ok (.aload_n 3, 1) := by decide +kernel
theorem dX7_left_35 : decode cX7_left 35 = .ok (.iload_n 2, 1) := by decide +kernel
theorem dX7_left_36 : decode cX7_left 36 = .ok (.putfield 133, 3) := by decide +kernel
theorem dX7_left_39 : decode cX7_left 39 = .ok (.aload_n 0, 1) := by decide +kernel
theorem dX7_left_40 : decode cX7_left 40 = .ok (.iload_n 2, 1) := by decide +kernel
theorem dX7_left_41 : decode cX7_left 41 = .ok (.putfield 130, 3) := by decide +kernel
theorem dX7_left_44 : decode cX7_left 44 = .ok (.aload_n 0, 1) := by decide +kernel
theorem dX7_left_45 : decode cX7_left 45 = .ok (.getfield 46, 3) := by decide +kernel
theorem dX7_left_48 : decode cX7_left 48 = .ok (.iconst 4, 1) := by decide +kernel
theorem dX7_left_49 : decode cX7_left 49 = .ok (.iload_n 1, 1) := by decide +kernel
theorem dX7_left_50 : decode cX7_left 50 = .ok (.iload_n 2, 1) := by decide +kernel
theorem dX7_left_51 : decode cX7_left 51 = .ok (.iconst 0, 1) := by decide +kernel
theorem dX7_left_52 : decode cX7_left 52 = .ok (.lconst 0, 1) := by decide +kernel
theorem dX7_left_53 : decode cX7_left 53 = .ok (.invokevirtual 98, 3) := by decide +kernel
theorem dX7_left_56 : decode cX7_left 56 = .ok (.return_, 1) := by decide +kernel
theorem dX7_file_0 : decode cX7_file 0 = .ok (.aload_n 0, 1) := by decide +kernel
theorem dX7_file_1 : decode cX7_file 1 = .ok (.iload_n 1, 1) := by decide +kernel
theorem dX7_file_2 : decode cX7_file 2 = .ok (.invokevirtual 118, 3) := by decide +kernel
theorem dX7_file_5 : decode cX7_file 5 = .ok (.astore 9, 2) := by decide +kernel
theorem dX7_file_7 : decode cX7_file 7 = .ok (.iload 5, 2) := by decide +kernel
theorem dX7_file_9 : decode cX7_file 9 = .ok (.invokestatic 138, 3) := by decide +kernel
theorem dX7_file_12 : decode cX7_file 12 = .ok (.iload 6, 2) := by decide +kernel
theorem dX7_file_14 : decode cX7_file 14 = .ok (.invokestatic 138, 3) := by decide +kernel
theorem dX7_file_17 : decode cX7_file 17 = .ok (.iload 7, 2) := by decide +kernel
theorem dX7_file_19 : decode cX7_file 19 = .ok (.invokestatic 138, 3) := by decide +kernel
theorem dX7_file_22 : decode cX7_file 22 = .ok (.aload_n 0, 1) := by decide +kernel
theorem dX7_file_23 : decode cX7_file 23 = .ok (.iload 8, 2) := by decide +kernel
theorem dX7_file_25 : decode cX7_file 25 = .ok (.invokevirtual 122, 3) := by decide +kernel
theorem dX7_file_28 : decode cX7_file 28 = .ok (.iload_n 2, 1) := by decide +kernel
theorem dX7_file_29 : decode cX7_file 29 = .ok (.iconst 1, 1) := by decide +kernel
theorem dX7_file_30 : decode cX7_file 30 = .ok (.if_icmp .lt 9, 3) := by decide +kernel
theorem dX7_file_33 : decode cX7_file 33 = .ok (.iload_n 2, 1) := by decide +kernel
theorem dX7_file_34 : decode cX7_file 34 = .ok (.ldc 141, 2) := by decide +kernel
theorem dX7_file_36 : decode cX7_file 36 = .ok (.if_icmp .le 13, 3) := by decide +kernel
theorem dX7_file_39 : decode cX7_file 39 = .ok (.new 60, 3) := by decide +kernel
theorem dX7_file_42 : decode cX7_file 42 = .ok (.dup, 1) := by decide +kernel
theorem dX7_file_43 : decode cX7_file 43 = .ok (.ldc 142, 2) := by decide +kernel
theorem dX7_file_45 : decode cX7_file 45 = .ok (.invokespecial 64, 3) := by decide +kernel
theorem dX7_file_48 : decode cX7_file 48 = .ok (.athrow, 1) := by decide +kernel
theorem dX7_file_49 : decode cX7_file 49 = .ok (.aload_n 0, 1) := by decide +kernel
theorem dX7_file_50 : decode cX7_file 50 = .ok (.iconst 1, 1) := by decide +kernel
theorem dX7_file_51 : decode cX7_file 51 = .ok (.invokevirtual 83, 3) := by decide +kernel
theorem dX7_file_54 : decode cX7_file 54 = .ok (.aload 9, 2) := by decide +kernel
theorem dX7_file_56 : decode cX7_file 56 = .ok (.getfield 125, 3) := by decide +kernel
theorem dX7_file_59 : decode cX7_file 59 = .ok (.iconst (-1), 1) := by decide +kernel
theorem dX7_file_60 : decode cX7_file 60 = .ok (.if_icmp .ne 12, 3) := by decide +kernel
theorem dX7_file_63 : decode cX7_file 63 = .ok (.aload_n 0, 1) := by decide +kernel
theorem dX7_file_64 : decode cX7_file 64 = .ok (.getfield 104, 3) := by decide +kernel
theorem dX7_file_67 : decode cX7_file 67 = .ok (.bipush 64, 2) := by decide +kernel
theorem dX7_file_69 : decode cX7_file 69 = .ok (.if_icmp .lt 13, 3) := by decide +kernel
theorem dX7_file_72 : decode cX7_file 72 = .ok (.new 89, 3) := by decide +kernel
theorem dX7_file_75 : decode cX7_file 75 = .ok (.dup, 1) := by decide +kernel
theorem dX7_file_76 : decode cX7_file 76 = .ok (.ldc 144, 2) := by decide +kernel
theorem dX7_file_78 : decode cX7_file 78 = .ok (.invokespecial 93, 3) := by decide +kernel
theorem dX7_file_81 : decode cX7_file 81 = .ok (.athrow, 1) := by decide +kernel
theorem dX7_file_82 : decode cX7_file 82 = .ok (.aload_n 0, 1) := by decide +kernel
theorem dX7_file_83 : decode cX7_file 83 = .ok (.getfield 104, 3) := by decide +kernel
theorem dX7_file_86 : decode cX7_file 86 = .ok (.istore 10, 2) := by decide +kernel
theorem dX7_file_88 : decode cX7_file 88 = .ok (.aload_n 0, 1) := by decide +kernel
theorem dX7_file_89 : decode cX7_file 89 = .ok (.getfield 33, 3) := by decide +kernel
theorem dX7_file_92 : decode cX7_file 92 = .ok (.iload 10, 2) := by decide +kernel
theorem dX7_file_94 : decode cX7_file 94 = .ok (.new 31, 3) := by decide +kernel
theorem dX7_file_97 : decode cX7_file 97 = .ok (.dup, 1) := by decide +kernel
theorem dX7_file_98 : decode cX7_file 98 = .ok (.aload 9, 2) := by decide +kernel
theorem dX7_file_100 : decode cX7_file 100 = .ok (.iload_n 2, 1) := by decide +kernel
theorem dX7_file_101 : decode cX7_file 101 = .ok (.lload_n 3, 1) := by decide +kernel
theorem dX7_file_102 : decode cX7_file 102 = .ok (.iload 5, 2) := by decide +kernel
theorem dX7_file_104 : decode cX7_file 104 = .ok (.iload 6, 2) := by decide +kernel
theorem dX7_file_106 : decode cX7_file 106 = .ok (.iload 7, 2) := by decide +kernel
theorem dX7_file_108 : decode cX7_file 108 = .ok (.iload 8, 2) := by decide +kernel
theorem dX7_file_110 : decode cX7_file 110 = .ok (.invokespecial 146, 3) := by decide +kernel
theorem dX7_file_113 : decode cX7_file 113 = .ok (.aastore, 1) := by decide +kernel
theorem dX7_file_114 : decode cX7_file 114 = .ok (.aload_n 0, 1) := by decide +kernel
theorem dX7_file_115 : decode cX7_file 115 = .ok (.dup, 1) := by decide +kernel
theorem dX7_file_116 : decode cX7_file 116 = .ok (.getfield 104, 3) := by decide +kernel
theorem dX7_file_119 : decode cX7_file 119 = .ok (.iconst 1, 1) := by decide +kernel
theorem dX7_file_120 : decode cX7_file 120 = .ok (.iadd, 1) := by decide +kernel
theorem dX7_file_121 : decode cX7_file 121 = .ok (.putfield 104, 3) := by decide +kernel
theorem dX7_file_124 : decode cX7_file 124 = .ok (.aload_n 0, 1) := by decide +kernel
theorem dX7_file_125 : decode cX7_file 125 = .ok (.iload 8, 2) := by decide +kernel
theorem dX7_file_127 : decode cX7_file 127 = .ok (.putfield 130, 3) := by decide +kernel
theorem dX7_file_130 : decode cX7_file 130 = .ok (.aload_n 0, 1) := by decide +kernel
theorem dX7_file_131 : decode cX7_file 131 = .ok (.getfield 46, 3) := by decide +kernel
theorem dX7_file_134 : decode cX7_file 134 = .ok (.iconst 5, 1) := by decide +kernel
theorem dX7_file_135 : decode cX7_file 135 = .ok (.iload 10, 2) := by decide +kernel
theorem dX7_file_137 : decode cX7_file 137 = .ok (.iload_n 1, 1) := by decide +kernel
theorem dX7_file_138 : decode cX7_file 138 = .ok (.iload 8, 2) := by decide +kernel
theorem dX7_file_140 : decode cX7_file 140 = .ok (.lload_n 3, 1) := by decide +kernel
theorem dX7_file_141 : decode cX7_file 141 = .ok (.invokevirtual 98, 3) := by decide +kernel
theorem dX7_file_144 : decode cX7_file 144 = .ok (.iload 10, 2) := by decide +kernel
theorem dX7_file_146 : decode cX7_file 146 = .ok (.ireturn, 1) := by decide +kernel
theorem dX7_hold_0 : decode cX7_hold 0 = .ok (.iload_n 1, 1) := by decide +kernel
theorem dX7_hold_1 : decode cX7_hold 1 = .ok (.invokestatic 149, 3) := by decide +kernel
theorem dX7_hold_4 : decode cX7_hold 4 = .ok (.iload_n 2, 1) := by decide +kernel
theorem dX7_hold_5 : decode cX7_hold 5 = .ok (.iconst (-1), 1) := by decide +kernel
theorem dX7_hold_6 : decode cX7_hold 6 = .ok (.if_icmp .lt 9, 3) := by decide +kernel
theorem dX7_hold_9 : decode cX7_hold 9 = .ok (.iload_n 2, 1) := by decide +kernel
theorem dX7_hold_10 : decode cX7_hold 10 = .ok (.bipush 16, 2) := by decide +kernel
theorem dX7_hold_12 : decode cX7_hold 12 = .ok (.if_icmp .lt 13, 3) := by decide +kernel
theorem dX7_hold_15 : decode cX7_hold 15 = .ok (.new 109, 3) := by decide +kernel
theorem dX7_hold_18 : decode cX7_hold 18 = .ok (.dup, 1) := by decide +kernel
theorem dX7_hold_19 : decode cX7_hold 19 = .ok (.ldc 111, 2) := by decide +kernel
theorem dX7_hold_21 : decode cX7_hold 21 = .ok (.invokespecial 113, 3) := by decide +kernel
theorem dX7_hold_24 : decode cX7_hold 24 = .ok (.athrow, 1) := by decide +kernel
theorem dX7_hold_25 : decode cX7_hold 25 = .ok (.iload_n 3, 1) := by decide +kernel
theorem dX7_hold_26 : decode cX7_hold 26 = .ok (.iconst (-1), 1) := by decide +kernel
theorem dX7_hold_27 : decode cX7_hold 27 = .ok (.if_icmp .eq 7, 3) := by decide +kernel
theorem dX7_hold_30 : decode cX7_hold 30 = .ok (.iload_n 3, 1) := by decide +kernel
theorem dX7_hold_31 : decode cX7_hold 31 = .ok (.invokestatic 67, 3) := by decide +kernel
theorem dX7_hold_34 : decode cX7_hold 34 = .ok (.iload 4, 2) := by decide +kernel
theorem dX7_hold_36 : decode cX7_hold 36 = .ok (.invokestatic 138, 3) := by decide +kernel
theorem dX7_hold_39 : decode cX7_hold 39 = .ok (.iload 5, 2) := by decide +kernel
theorem dX7_hold_41 : decode cX7_hold 41 = .ok (.invokestatic 74, 3) := by decide +kernel
theorem dX7_hold_44 : decode cX7_hold 44 = .ok (.iload 6, 2) := by decide +kernel
theorem dX7_hold_46 : decode cX7_hold 46 = .ok (.invokestatic 74, 3) := by decide +kernel
theorem dX7_hold_49 : decode cX7_hold 49 = .ok (.iload 6, 2) := by decide +kernel
theorem dX7_hold_51 : decode cX7_hold 51 = .ok (.iload 5, 2) := by decide +kernel
theorem dX7_hold_53 : decode cX7_hold 53 = .ok (.if_icmp .ge 13, 3) := by decide +kernel
theorem dX7_hold_56 : decode cX7_hold 56 = .ok (.new 60, 3) := by decide +kernel
theorem dX7_hold_59 : decode cX7_hold 59 = .ok (.dup, 1) := by decide +kernel
theorem dX7_hold_60 : decode cX7_hold 60 = .ok (.ldc 152, 2) := by decide +kernel
theorem dX7_hold_62 : decode cX7_hold 62 = .ok (.invokespecial 64, 3) := by decide +kernel
theorem dX7_hold_65 : decode cX7_hold 65 = .ok (.athrow, 1) := by decide +kernel
theorem dX7_hold_66 : decode cX7_hold 66 = .ok (.aload_n 0, 1) := by decide +kernel
theorem dX7_hold_67 : decode cX7_hold 67 = .ok (.iconst 1, 1) := by decide +kernel
theorem dX7_hold_68 : decode cX7_hold 68 = .ok (.invokevirtual 83, 3) := by decide +kernel
theorem dX7_hold_71 : decode cX7_hold 71 = .ok (.aload_n 0, 1) := by decide +kernel
theorem dX7_hold_72 : decode cX7_hold 72 = .ok (.getfield 27, 3) := by decide +kernel
theorem dX7_hold_75 : decode cX7_hold 75 = .ok (.iload_n 1, 1) := by decide +kernel
theorem dX7_hold_76 : decode cX7_hold 76 = .ok (.aaload, 1) := by decide +kernel
theorem dX7_hold_77 : decode cX7_hold 77 = .ok (.getfield 154, 3) := by decide +kernel
theorem dX7_hold_80 : decode cX7_hold 80 = .ok (.ifCond .eq 13, 3) := by decide +kernel
theorem dX7_hold_83 : decode cX7_hold 83 = .ok (.new 89, 3) := by decide +kernel
theorem dX7_hold_86 : decode cX7_hold 86 = .ok (.dup, 1) := by decide +kernel
theorem dX7_hold_87 : decode cX7_hold 87 = .ok (.ldc 158, 2) := by decide +kernel
theorem dX7_hold_89 : decode cX7_hold 89 = .ok (.invokespecial 93, 3) := by decide +kernel
theorem dX7_hold_92 : decode cX7_hold 92 = .ok (.athrow, 1) := by decide +kernel
theorem dX7_hold_93 : decode cX7_hold 93 = .ok (.aload_n 0, 1) := by decide +kernel
theorem dX7_hold_94 : decode cX7_hold 94 = .ok (.getfield 27, 3) := by decide +kernel
theorem dX7_hold_97 : decode cX7_hold 97 = .ok (.iload_n 1, 1) := by decide +kernel
theorem dX7_hold_98 : decode cX7_hold 98 = .ok (.aaload, 1) := by decide +kernel
theorem dX7_hold_99 : decode cX7_hold 99 = .ok (.iload_n 2, 1) := by decide +kernel
theorem dX7_hold_100 : decode cX7_hold 100 = .ok (.iload_n 3, 1) := by decide +kernel
theorem dX7_hold_101 : decode cX7_hold 101 = .ok (.iload 4, 2) := by decide +kernel
theorem dX7_hold_103 : decode cX7_hold 103 = .ok (.iload 5, 2) := by decide +kernel
theorem dX7_hold_105 : decode cX7_hold 105 = .ok (.iload 6, 2) := by decide +kernel
theorem dX7_hold_107 : decode cX7_hold 107 = .ok (.invokevirtual 160, 3) := by decide +kernel
theorem dX7_hold_110 : decode cX7_hold 110 = .ok (.aload_n 0, 1) := by decide +kernel
theorem dX7_hold_111 : decode cX7_hold 111 = .ok (.getfield 46, 3) := by decide +kernel
theorem dX7_hold_114 : decode cX7_hold 114 = .ok (.bipush 6, 2) := by decide +kernel
theorem dX7_hold_116 : decode cX7_hold 116 = .ok (.iload_n 1, 1) := by decide +kernel
theorem dX7_hold_117 : decode cX7_hold 117 = .ok (.iload_n 2, 1) := by decide +kernel
theorem dX7_hold_118 : decode cX7_hold 118 = .ok (.iconst 1, 1) := by decide +kernel
theorem dX7_hold_119 : decode cX7_hold 119 = .ok (.iadd, 1) := by decide +kernel
theorem dX7_hold_120 : decode cX7_hold 120 = .ok (.iload_n 3, 1) := by decide +kernel
theorem dX7_hold_121 : decode cX7_hold 121 = .ok (.iconst 1, 1) := by decide +kernel
theorem dX7_hold_122 : decode cX7_hold 122 = .ok (.iadd, 1) := by decide +kernel
theorem dX7_hold_123 : decode cX7_hold 123 = .ok (.lconst 0, 1) := by decide +kernel
theorem dX7_hold_124 : decode cX7_hold 124 = .ok (.invokevirtual 98, 3) := by decide +kernel
theorem dX7_hold_127 : decode cX7_hold 127 = .ok (.return_, 1) := by decide +kernel
theorem dX7_lift_0 : decode cX7_lift 0 = .ok (.iload_n 1, 1) := by decide +kernel
theorem dX7_lift_1 : decode cX7_lift 1 = .ok (.invokestatic 149, 3) := by decide +kernel
theorem dX7_lift_4 : decode cX7_lift 4 = .ok (.aload_n 0, 1) := by decide +kernel
theorem dX7_lift_5 : decode cX7_lift 5 = .ok (.iconst 1, 1) := by decide +kernel
theorem dX7_lift_6 : decode cX7_lift 6 = .ok (.invokevirtual 83, 3) := by decide +kernel
theorem dX7_lift_9 : decode cX7_lift 9 = .ok (.aload_n 0, 1) := by decide +kernel
theorem dX7_lift_10 : decode cX7_lift 10 = .ok (.getfield 27, 3) := by decide +kernel
theorem dX7_lift_13 : decode cX7_lift 13 = .ok (.iload_n 1, 1) := by decide +kernel
theorem dX7_lift_14 : decode cX7_lift 14 = .ok (.aaload, 1) := by decide +kernel
theorem dX7_lift_15 : decode cX7_lift 15 = .ok (.getfield 154, 3) := by decide +kernel
theorem dX7_lift_18 : decode cX7_lift 18 = .ok (.ifCond .ne 13, 3) := by decide +kernel
theorem dX7_lift_21 : decode cX7_lift 21 = .ok (.new 89, 3) := by decide +kernel
theorem dX7_lift_24 : decode cX7_lift 24 = .ok (.dup, 1) := by decide +kernel
theorem dX7_lift_25 : decode cX7_lift 25 = .ok (.ldc 164, 2) := by decide +kernel
theorem dX7_lift_27 : decode cX7_lift 27 = .ok (.invokespecial 93, 3) := by decide +kernel
theorem dX7_lift_30 : decode cX7_lift 30 = .ok (.athrow, 1) := by decide +kernel
theorem dX7_lift_31 : decode cX7_lift 31 = .ok (.aload_n 0, 1) := by decide +kernel
theorem dX7_lift_32 : decode cX7_lift 32 = .ok (.getfield 27, 3) := by decide +kernel
theorem dX7_lift_35 : decode cX7_lift 35 = .ok (.iload_n 1, 1) := by decide +kernel
theorem dX7_lift_36 : decode cX7_lift 36 = .ok (.aaload, 1) := by decide +kernel
theorem dX7_lift_37 : decode cX7_lift 37 = .ok (.iconst 0, 1) := by decide +kernel
theorem dX7_lift_38 : decode cX7_lift 38 = .ok (.putfield 154, 3) := by decide +kernel
theorem dX7_lift_41 : decode cX7_lift 41 = .ok (.aload_n 0, 1) := by decide +kernel
theorem dX7_lift_42 : decode cX7_lift 42 = .ok (.getfield 46, 3) := by decide +kernel
theorem dX7_lift_45 : decode cX7_lift 45 = .ok (.bipush 7, 2) := by decide +kernel
theorem dX7_lift_47 : decode cX7_lift 47 = .ok (.iload_n 1, 1) := by decide +kernel
theorem dX7_lift_48 : decode cX7_lift 48 = .ok (.iconst 0, 1) := by decide +kernel
theorem dX7_lift_49 : decode cX7_lift 49 = .ok (.iconst 0, 1) := by decide +kernel
theorem dX7_lift_50 : decode cX7_lift 50 = .ok (.lconst 0, 1) := by decide +kernel
theorem dX7_lift_51 : decode cX7_lift 51 = .ok (.invokevirtual 98, 3) := by decide +kernel
theorem dX7_lift_54 : decode cX7_lift 54 = .ok (.return_, 1) := by decide +kernel
theorem dX7_covered_0 : decode cX7_covered 0 = .ok (.aload_n 0, 1) := by decide +kernel
theorem dX7_covered_1 : decode cX7_covered 1 = .ok (.aload_n 0, 1) := by decide +kernel
theorem dX7_covered_2 : decode cX7_covered 2 = .ok (.iload_n 1, 1) := by decide +kernel
theorem dX7_covered_3 : decode cX7_covered 3 = .ok (.invokevirtual 166, 3) := by decide +kernel
theorem dX7_covered_6 : decode cX7_covered 6 = .ok (.invokevirtual 170, 3) := by decide +kernel
theorem dX7_covered_9 : decode cX7_covered 9 = .ok (.ireturn, 1) := by decide +kernel
theorem dX7_due_0 : decode cX7_due 0 = .ok (.aload_n 0, 1) := by decide +kernel
theorem dX7_due_1 : decode cX7_due 1 = .ok (.aload_n 0, 1) := by decide +kernel
theorem dX7_due_2 : decode cX7_due 2 = .ok (.iload_n 1, 1) := by decide +kernel
theorem dX7_due_3 : decode cX7_due 3 = .ok (.invokevirtual 166, 3) := by decide +kernel
theorem dX7_due_6 : decode cX7_due 6 = .ok (.invokevirtual 174, 3) := by decide +kernel
theorem dX7_due_9 : decode cX7_due 9 = .ok (.ireturn, 1) := by decide +kernel
theorem dX7_record_0 : decode cX7_record 0 = .ok (.aload_n 0, 1) := by decide +kernel
theorem dX7_record_1 : decode cX7_record 1 = .ok (.iload_n 1, 1) := by decide +kernel
theorem dX7_record_2 : decode cX7_record 2 = .ok (.invokevirtual 166, 3) := by decide +kernel
theorem dX7_record_5 : decode cX7_record 5 = .ok (.astore_n 3, 1) := by decide +kernel
theorem dX7_record_6 : decode cX7_record 6 = .ok (.iload_n 2, 1) := by decide +kernel
theorem dX7_record_7 : decode cX7_record 7 = .ok (.tableswitch 69 0 4 #[33, 41, 46, 51, 64], 33) := by decide +kernel
theorem dX7_record_40 : decode cX7_record 40 = .ok (.aload_n 3, 1) := by decide +kernel
theorem dX7_record_41 : decode cX7_record 41 = .ok (.getfield 177, 3) := by decide +kernel
theorem dX7_record_44 : decode cX7_record 44 = .ok (.getfield 181, 3) := by decide +kernel
theorem dX7_record_47 : decode cX7_record 47 = .ok (.ireturn, 1) := by decide +kernel
theorem dX7_record_48 : decode cX7_record 48 = .ok (.aload_n 3, 1) := by decide +kernel
theorem dX7_record_49 : decode cX7_record 49 = .ok (.getfield 184, 3) := by decide +kernel
theorem dX7_record_52 : decode cX7_record 52 = .ok (.ireturn, 1) := by decide +kernel
theorem dX7_record_53 : decode cX7_record 53 = .ok (.aload_n 3, 1) := by decide +kernel
theorem dX7_record_54 : decode cX7_record 54 = .ok (.getfield 187, 3) := by decide +kernel
theorem dX7_record_57 : decode cX7_record 57 = .ok (.ireturn, 1) := by decide +kernel
theorem dX7_record_58 : decode cX7_record 58 = .ok (.aload_n 3, 1) := by decide +kernel
theorem dX7_record_59 : decode cX7_record 59 = .ok (.getfield 188, 3) := by decide +kernel
theorem dX7_record_62 : decode cX7_record 62 = .ok (.ifCond .eq 7, 3) := by decide +kernel
theorem dX7_record_65 : decode cX7_record 65 = .ok (.iconst 1, 1) := by decide +kernel
theorem dX7_record_66 : decode cX7_record 66 = .ok (.goto 4, 3) := by decide +kernel
theorem dX7_record_69 : decode cX7_record 69 = .ok (.iconst 0, 1) := by decide +kernel
theorem dX7_record_70 : decode cX7_record 70 = .ok (.ireturn, 1) := by decide +kernel
theorem dX7_record_71 : decode cX7_record 71 = .ok (.aload_n 3, 1) := by decide +kernel
theorem dX7_record_72 : decode cX7_record 72 = .ok (.invokevirtual 191, 3) := by decide +kernel
theorem dX7_record_75 : decode cX7_record 75 = .ok (.ireturn, 1) := by decide +kernel
theorem dX7_record_76 : decode cX7_record 76 = .ok (.new 60, 3) := by decide +kernel
theorem dX7_record_79 : decode cX7_record 79 = .ok (.dup, 1) := by decide +kernel
theorem dX7_record_80 : decode cX7_record 80 = .ok (.ldc 195, 2) := by decide +kernel
theorem dX7_record_82 : decode cX7_record 82 = .ok (.invokespecial 64, 3) := by decide +kernel
theorem dX7_record_85 : decode cX7_record 85 = .ok (.athrow, 1) := by decide +kernel
theorem dX7_read_0 : decode cX7_read 0 = .ok (.aload_n 0, 1) := by decide +kernel
theorem dX7_read_1 : decode cX7_read 1 = .ok (.iload_n 1, 1) := by decide +kernel
theorem dX7_read_2 : decode cX7_read 2 = .ok (.invokevirtual 166, 3) := by decide +kernel
theorem dX7_read_5 : decode cX7_read 5 = .ok (.astore_n 2, 1) := by decide +kernel
theorem dX7_read_6 : decode cX7_read 6 = .ok (.aload_n 2, 1) := by decide +kernel
theorem dX7_read_7 : decode cX7_read 7 = .ok (.getfield 188, 3) := by decide +kernel
theorem dX7_read_10 : decode cX7_read 10 = .ok (.ifCond .eq 13, 3) := by decide +kernel
theorem dX7_read_13 : decode cX7_read 13 = .ok (.new 89, 3) := by decide +kernel
theorem dX7_read_16 : decode cX7_read 16 = .ok (.dup, 1) := by decide +kernel
theorem dX7_read_17 : decode cX7_read 17 = .ok (.ldc 197, 2) := by decide +kernel
theorem dX7_read_19 : decode cX7_read 19 = .ok (.invokespecial 93, 3) := by decide +kernel
theorem dX7_read_22 : decode cX7_read 22 = .ok (.athrow, 1) := by decide +kernel
theorem dX7_read_23 : decode cX7_read 23 = .ok (.aload_n 2, 1) := by decide +kernel
theorem dX7_read_24 : decode cX7_read 24 = .ok (.getfield 199, 3) := by decide +kernel
theorem dX7_read_27 : decode cX7_read 27 = .ok (.lreturn, 1) := by decide +kernel
theorem dX7_find_0 : decode cX7_find 0 = .ok (.iload_n 1, 1) := by decide +kernel
theorem dX7_find_1 : decode cX7_find 1 = .ok (.ifCond .lt 14, 3) := by decide +kernel
theorem dX7_find_4 : decode cX7_find 4 = .ok (.iload_n 1, 1) := by decide +kernel
theorem dX7_find_5 : decode cX7_find 5 = .ok (.bipush 99, 2) := by decide +kernel
theorem dX7_find_7 : decode cX7_find 7 = .ok (.if_icmp .gt 8, 3) := by decide +kernel
theorem dX7_find_10 : decode cX7_find 10 = .ok (.iload 4, 2) := by decide +kernel
theorem dX7_find_12 : decode cX7_find 12 = .ok (.ifCond .ge 13, 3) := by decide +kernel
theorem dX7_find_15 : decode cX7_find 15 = .ok (.new 60, 3) := by decide +kernel
theorem dX7_find_18 : decode cX7_find 18 = .ok (.dup, 1) := by decide +kernel
theorem dX7_find_19 : decode cX7_find 19 = .ok (.ldc 203, 2) := by decide +kernel
theorem dX7_find_21 : decode cX7_find 21 = .ok (.invokespecial 64, 3) := by decide +kernel
theorem dX7_find_24 : decode cX7_find 24 = .ok (.athrow, 1) := by decide +kernel
theorem dX7_find_25 : decode cX7_find 25 = .ok (.iconst 0, 1) := by decide +kernel
theorem dX7_find_26 : decode cX7_find 26 = .ok (.istore 5, 2) := by decide +kernel
theorem dX7_find_28 : decode cX7_find 28 = .ok (.iconst 0, 1) := by decide +kernel
theorem dX7_find_29 : decode cX7_find 29 = .ok (.istore 6, 2) := by decide +kernel
theorem dX7_find_31 : decode cX7_find 31 = .ok (.iload 6, 2) := by decide +kernel
theorem dX7_find_33 : decode cX7_find 33 = .ok (.aload_n 0, 1) := by decide +kernel
theorem dX7_find_34 : decode cX7_find 34 = .ok (.getfield 104, 3) := by decide +kernel
theorem dX7_find_37 : decode cX7_find 37 = .ok (.if_icmp .ge 58, 3) := by decide +kernel
theorem dX7_find_40 : decode cX7_find 40 = .ok (.aload_n 0, 1) := by decide +kernel
theorem dX7_find_41 : decode cX7_find 41 = .ok (.getfield 33, 3) := by decide +kernel
theorem dX7_find_44 : decode cX7_find 44 = .ok (.iload 6, 2) := by decide +kernel
theorem dX7_find_46 : decode cX7_find 46 = .ok (.aaload, 1) := by decide +kernel
theorem dX7_find_47 : decode cX7_find 47 = .ok (.astore 7, 2) := by decide +kernel
theorem dX7_find_49 : decode cX7_find 49 = .ok (.aload 7, 2) := by decide +kernel
theorem dX7_find_51 : decode cX7_find 51 = .ok (.getfield 188, 3) := by decide +kernel
theorem dX7_find_54 : decode cX7_find 54 = .ok (.ifCond .ne 35, 3) := by decide +kernel
theorem dX7_find_57 : decode cX7_find 57 = .ok (.aload 7, 2) := by decide +kernel
theorem dX7_find_59 : decode cX7_find 59 = .ok (.iload_n 1, 1) := by decide +kernel
theorem dX7_find_60 : decode cX7_find 60 = .ok (.invokevirtual 205, 3) := by decide +kernel
theorem dX7_find_63 : decode cX7_find 63 = .ok (.ifCond .eq 26, 3) := by decide +kernel
theorem dX7_find_66 : decode cX7_find 66 = .ok (.aload 7, 2) := by decide +kernel
theorem dX7_find_68 : decode cX7_find 68 = .ok (.iload_n 2, 1) := by decide +kernel
theorem dX7_find_69 : decode cX7_find 69 = .ok (.iload_n 3, 1) := by decide +kernel
theorem dX7_find_70 : decode cX7_find 70 = .ok (.invokevirtual 209, 3) := by decide +kernel
theorem dX7_find_73 : decode cX7_find 73 = .ok (.ifCond .eq 16, 3) := by decide +kernel
theorem dX7_find_76 : decode cX7_find 76 = .ok (.iload 5, 2) := by decide +kernel
theorem dX7_find_78 : decode cX7_find 78 = .ok (.iload 4, 2) := by decide +kernel
theorem dX7_find_80 : decode cX7_find 80 = .ok (.if_icmp .ne 6, 3) := by decide +kernel
theorem dX7_find_83 : decode cX7_find 83 = .ok (.iload 6, 2) := by decide +kernel
theorem dX7_find_85 : decode cX7_find 85 = .ok (.ireturn, 1) := by decide +kernel
theorem dX7_find_86 : decode cX7_find 86 = .ok (.iinc 5 1, 3) := by decide +kernel
theorem dX7_find_89 : decode cX7_find 89 = .ok (.iinc 6 1, 3) := by decide +kernel
theorem dX7_find_92 : decode cX7_find 92 = .ok (.goto (-61), 3) := by decide +kernel
theorem dX7_find_95 : decode cX7_find 95 = .ok (.iconst (-1), 1) := by decide +kernel
theorem dX7_find_96 : decode cX7_find 96 = .ok (.ireturn, 1) := by decide +kernel
theorem dX7_draw_0 : decode cX7_draw 0 = .ok (.iload_n 1, 1) := by decide +kernel
theorem dX7_draw_1 : decode cX7_draw 1 = .ok (.invokestatic 56, 3) := by decide +kernel
theorem dX7_draw_4 : decode cX7_draw 4 = .ok (.aload_n 0, 1) := by decide +kernel
theorem dX7_draw_5 : decode cX7_draw 5 = .ok (.iload_n 2, 1) := by decide +kernel
theorem dX7_draw_6 : decode cX7_draw 6 = .ok (.invokevirtual 122, 3) := by decide +kernel
theorem dX7_draw_9 : decode cX7_draw 9 = .ok (.aload_n 0, 1) := by decide +kernel
theorem dX7_draw_10 : decode cX7_draw 10 = .ok (.iload_n 1, 1) := by decide +kernel
theorem dX7_draw_11 : decode cX7_draw 11 = .ok (.iconst 1, 1) := by decide +kernel
theorem dX7_draw_12 : decode cX7_draw 12 = .ok (.invokevirtual 212, 3) := by decide +kernel
theorem dX7_draw_15 : decode cX7_draw 15 = .ok (.aload_n 0, 1) := by decide +kernel
theorem dX7_draw_16 : decode cX7_draw 16 = .ok (.iconst 1, 1) := by decide +kernel
theorem dX7_draw_17 : decode cX7_draw 17 = .ok (.invokevirtual 83, 3) := by decide +kernel
theorem dX7_draw_20 : decode cX7_draw 20 = .ok (.aload_n 0, 1) := by decide +kernel
theorem dX7_draw_21 : decode cX7_draw 21 = .ok (.getfield 215, 3) := by decide +kernel
theorem dX7_draw_24 : decode cX7_draw 24 = .ok (.bipush 16, 2) := by decide +kernel
theorem dX7_draw_26 : decode cX7_draw 26 = .ok (.if_icmp .lt 13, 3) := by decide +kernel
theorem dX7_draw_29 : decode cX7_draw 29 = .ok (.new 89, 3) := by decide +kernel
theorem dX7_draw_32 : decode cX7_draw 32 = .ok (.dup, 1) := by decide +kernel
theorem dX7_draw_33 : decode cX7_draw 33 = .ok (.ldc 218, 2) := by decide +kernel
theorem dX7_draw_35 : decode cX7_draw 35 = .ok (.invokespecial 93, 3) := by decide +kernel
theorem dX7_draw_38 : decode cX7_draw 38 = .ok (.athrow, 1) := by decide +kernel
theorem dX7_draw_39 : decode cX7_draw 39 = .ok (.aload_n 0, 1) := by decide +kernel
theorem dX7_draw_40 : decode cX7_draw 40 = .ok (.iload_n 2, 1) := by decide +kernel
theorem dX7_draw_41 : decode cX7_draw 41 = .ok (.invokevirtual 220, 3) := by decide +kernel
theorem dX7_draw_44 : decode cX7_draw 44 = .ok (.lstore_n 3, 1) := by decide +kernel
theorem dX7_draw_45 : decode cX7_draw 45 = .ok (.lload_n 3, 1) := by decide +kernel
theorem dX7_draw_46 : decode cX7_draw 46 = .ok (.lconst 0, 1) := by decide +kernel
theorem dX7_draw_47 : decode cX7_draw 47 = .ok (.lcmp, 1) := by decide +kernel
theorem dX7_draw_48 : decode cX7_draw 48 = .ok (.ifCond .ne 13, 3) := by decide +kernel
theorem dX7_draw_51 : decode cX7_draw 51 = .ok (.new 89, 3) := by decide +kernel
theorem dX7_draw_54 : decode cX7_draw 54 = .ok (.dup, 1) := by decide +kernel
theorem dX7_draw_55 : decode cX7_draw 55 = .ok (.ldc 224, 2) := by decide +kernel
theorem dX7_draw_57 : decode cX7_draw 57 = .ok (.invokespecial 93, 3) := by decide +kernel
theorem dX7_draw_60 : decode cX7_draw 60 = .ok (.athrow, 1) := by decide +kernel
theorem dX7_draw_61 : decode cX7_draw 61 = .ok (.aload_n 0, 1) := by decide +kernel
theorem dX7_draw_62 : decode cX7_draw 62 = .ok (.getfield 215, 3) := by decide +kernel
theorem dX7_draw_65 : decode cX7_draw 65 = .ok (.istore 5, 2) := by decide +kernel
theorem dX7_draw_67 : decode cX7_draw 67 = .ok (.aload_n 0, 1) := by decide +kernel
theorem dX7_draw_68 : decode cX7_draw 68 = .ok (.getfield 39, 3) := by decide +kernel
theorem dX7_draw_71 : decode cX7_draw 71 = .ok (.iload 5, 2) := by decide +kernel
theorem dX7_draw_73 : decode cX7_draw 73 = .ok (.new 37, 3) := by decide +kernel
theorem dX7_draw_76 : decode cX7_draw 76 = .ok (.dup, 1) := by decide +kernel
theorem dX7_draw_77 : decode cX7_draw 77 = .ok (.iload_n 1, 1) := by decide +kernel
theorem dX7_draw_78 : decode cX7_draw 78 = .ok (.lload_n 3, 1) := by decide +kernel
theorem dX7_draw_79 : decode cX7_draw 79 = .ok (.invokespecial 226, 3) := by decide +kernel
theorem dX7_draw_82 : decode cX7_draw 82 = .ok (.aastore, 1) := by decide +kernel
theorem dX7_draw_83 : decode cX7_draw 83 = .ok (.aload_n 0, 1) := by decide +kernel
theorem dX7_draw_84 : decode cX7_draw 84 = .ok (.dup, 1) := by decide +kernel
theorem dX7_draw_85 : decode cX7_draw 85 = .ok (.getfield 215, 3) := by decide +kernel
theorem dX7_draw_88 : decode cX7_draw 88 = .ok (.iconst 1, 1) := by decide +kernel
theorem dX7_draw_89 : decode cX7_draw 89 = .ok (.iadd, 1) := by decide +kernel
theorem dX7_draw_90 : decode cX7_draw 90 = .ok (.putfield 215, 3) := by decide +kernel
theorem dX7_draw_93 : decode cX7_draw 93 = .ok (.aload_n 0, 1) := by decide +kernel
theorem dX7_draw_94 : decode cX7_draw 94 = .ok (.iload_n 2, 1) := by decide +kernel
theorem dX7_draw_95 : decode cX7_draw 95 = .ok (.putfield 130, 3) := by decide +kernel
theorem dX7_draw_98 : decode cX7_draw 98 = .ok (.aload_n 0, 1) := by decide +kernel
theorem dX7_draw_99 : decode cX7_draw 99 = .ok (.getfield 46, 3) := by decide +kernel
theorem dX7_draw_102 : decode cX7_draw 102 = .ok (.bipush 8, 2) := by decide +kernel
theorem dX7_draw_104 : decode cX7_draw 104 = .ok (.iload 5, 2) := by decide +kernel
theorem dX7_draw_106 : decode cX7_draw 106 = .ok (.iload_n 2, 1) := by decide +kernel
theorem dX7_draw_107 : decode cX7_draw 107 = .ok (.aload_n 0, 1) := by decide +kernel
theorem dX7_draw_108 : decode cX7_draw 108 = .ok (.getfield 39, 3) := by decide +kernel
theorem dX7_draw_111 : decode cX7_draw 111 = .ok (.iload 5, 2) := by decide +kernel
theorem dX7_draw_113 : decode cX7_draw 113 = .ok (.aaload, 1) := by decide +kernel
theorem dX7_draw_114 : decode cX7_draw 114 = .ok (.invokevirtual 229, 3) := by decide +kernel
theorem dX7_draw_117 : decode cX7_draw 117 = .ok (.lconst 0, 1) := by decide +kernel
theorem dX7_draw_118 : decode cX7_draw 118 = .ok (.invokevirtual 98, 3) := by decide +kernel
theorem dX7_draw_121 : decode cX7_draw 121 = .ok (.iload 5, 2) := by decide +kernel
theorem dX7_draw_123 : decode cX7_draw 123 = .ok (.ireturn, 1) := by decide +kernel
theorem dX7_listed_0 : decode cX7_listed 0 = .ok (.aload_n 0, 1) := by decide +kernel
theorem dX7_listed_1 : decode cX7_listed 1 = .ok (.iload_n 1, 1) := by decide +kernel
theorem dX7_listed_2 : decode cX7_listed 2 = .ok (.invokevirtual 231, 3) := by decide +kernel
theorem dX7_listed_5 : decode cX7_listed 5 = .ok (.astore_n 3, 1) := by decide +kernel
theorem dX7_listed_6 : decode cX7_listed 6 = .ok (.iload_n 2, 1) := by decide +kernel
theorem dX7_listed_7 : decode cX7_listed 7 = .ok (.ifCond .ge 13, 3) := by decide +kernel
theorem dX7_listed_10 : decode cX7_listed 10 = .ok (.new 109, 3) := by decide +kernel
theorem dX7_listed_13 : decode cX7_listed 13 = .ok (.dup, 1) := by decide +kernel
theorem dX7_listed_14 : decode cX7_listed 14 = .ok (.ldc 235, 2) := by decide +kernel
theorem dX7_listed_16 : decode cX7_listed 16 = .ok (.invokespecial 113, 3) := by decide +kernel
theorem dX7_listed_19 : decode cX7_listed 19 = .ok (.athrow, 1) := by decide +kernel
theorem dX7_listed_20 : decode cX7_listed 20 = .ok (.aload_n 3, 1) := by decide +kernel
theorem dX7_listed_21 : decode cX7_listed 21 = .ok (.iload_n 2, 1) := by decide +kernel
theorem dX7_listed_22 : decode cX7_listed 22 = .ok (.invokevirtual 237, 3) := by decide +kernel
theorem dX7_listed_25 : decode cX7_listed 25 = .ok (.ireturn, 1) := by decide +kernel
theorem dX7_approve_0 : decode cX7_approve 0 = .ok (.aload_n 0, 1) := by decide +kernel
theorem dX7_approve_1 : decode cX7_approve 1 = .ok (.iload_n 1, 1) := by decide +kernel
theorem dX7_approve_2 : decode cX7_approve 2 = .ok (.invokevirtual 231, 3) := by decide +kernel
theorem dX7_approve_5 : decode cX7_approve 5 = .ok (.astore_n 3, 1) := by decide +kernel
theorem dX7_approve_6 : decode cX7_approve 6 = .ok (.iload_n 2, 1) := by decide +kernel
theorem dX7_approve_7 : decode cX7_approve 7 = .ok (.invokestatic 56, 3) := by decide +kernel
theorem dX7_approve_10 : decode cX7_approve 10 = .ok (.aload_n 3, 1) := by decide +kernel
theorem dX7_approve_11 : decode cX7_approve 11 = .ok (.invokestatic 241, 3) := by decide +kernel
theorem dX7_approve_14 : decode cX7_approve 14 = .ok (.aload_n 0, 1) := by decide +kernel
theorem dX7_approve_15 : decode cX7_approve 15 = .ok (.iload_n 2, 1) := by decide +kernel
theorem dX7_approve_16 : decode cX7_approve 16 = .ok (.iconst 2, 1) := by decide +kernel
theorem dX7_approve_17 : decode cX7_approve 17 = .ok (.invokevirtual 212, 3) := by decide +kernel
theorem dX7_approve_20 : decode cX7_approve 20 = .ok (.aload_n 0, 1) := by decide +kernel
theorem dX7_approve_21 : decode cX7_approve 21 = .ok (.iconst 1, 1) := by decide +kernel
theorem dX7_approve_22 : decode cX7_approve 22 = .ok (.invokevirtual 83, 3) := by decide +kernel
theorem dX7_approve_25 : decode cX7_approve 25 = .ok (.aload_n 3, 1) := by decide +kernel
theorem dX7_approve_26 : decode cX7_approve 26 = .ok (.getfield 245, 3) := by decide +kernel
theorem dX7_approve_29 : decode cX7_approve 29 = .ok (.iload_n 2, 1) := by decide +kernel
theorem dX7_approve_30 : decode cX7_approve 30 = .ok (.if_icmp .eq 11, 3) := by decide +kernel
theorem dX7_approve_33 : decode cX7_approve 33 = .ok (.aload_n 3, 1) := by decide +kernel
theorem dX7_approve_34 : decode cX7_approve 34 = .ok (.iload_n 2, 1) := by decide +kernel
theorem dX7_approve_35 : decode cX7_approve 35 = .ok (.invokevirtual 248, 3) := by decide +kernel
theorem dX7_approve_38 : decode cX7_approve 38 = .ok (.ifCond .eq 13, 3) := by decide +kernel
theorem dX7_approve_41 : decode cX7_approve 41 = .ok (.new 89, 3) := by decide +kernel
theorem dX7_approve_44 : decode cX7_approve 44 = .ok (.dup, 1) := by decide +kernel
theorem dX7_approve_45 : decode cX7_approve 45 = .ok (.ldc 251, 2) := by decide +kernel
theorem dX7_approve_47 : decode cX7_approve 47 = .ok (.invokespecial 93, 3) := by decide +kernel
theorem dX7_approve_50 : decode cX7_approve 50 = .ok (.athrow, 1) := by decide +kernel
theorem dX7_approve_51 : decode cX7_approve 51 = .ok (.aload_n 3, 1) := by decide +kernel
theorem dX7_approve_52 : decode cX7_approve 52 = .ok (.iload_n 2, 1) := by decide +kernel
theorem dX7_approve_53 : decode cX7_approve 53 = .ok (.invokevirtual 253, 3) := by decide +kernel
theorem dX7_approve_56 : decode cX7_approve 56 = .ok (.aload_n 0, 1) := by decide +kernel
theorem dX7_approve_57 : decode cX7_approve 57 = .ok (.getfield 46, 3) := by decide +kernel
theorem dX7_approve_60 : decode cX7_approve 60 = .ok (.bipush 9, 2) := by decide +kernel
theorem dX7_approve_62 : decode cX7_approve 62 = .ok (.iload_n 1, 1) := by decide +kernel
theorem dX7_approve_63 : decode cX7_approve 63 = .ok (.iload_n 2, 1) := by decide +kernel
theorem dX7_approve_64 : decode cX7_approve 64 = .ok (.iconst 0, 1) := by decide +kernel
theorem dX7_approve_65 : decode cX7_approve 65 = .ok (.lconst 0, 1) := by decide +kernel
theorem dX7_approve_66 : decode cX7_approve 66 = .ok (.invokevirtual 98, 3) := by decide +kernel
theorem dX7_approve_69 : decode cX7_approve 69 = .ok (.aload_n 3, 1) := by decide +kernel
theorem dX7_approve_70 : decode cX7_approve 70 = .ok (.invokevirtual 256, 3) := by decide +kernel
theorem dX7_approve_73 : decode cX7_approve 73 = .ok (.ireturn, 1) := by decide +kernel
theorem dX7_strike_0 : decode cX7_strike 0 = .ok (.aload_n 0, 1) := by decide +kernel
theorem dX7_strike_1 : decode cX7_strike 1 = .ok (.iload_n 1, 1) := by decide +kernel
theorem dX7_strike_2 : decode cX7_strike 2 = .ok (.invokevirtual 231, 3) := by decide +kernel
theorem dX7_strike_5 : decode cX7_strike 5 = .ok (.astore_n 3, 1) := by decide +kernel
theorem dX7_strike_6 : decode cX7_strike 6 = .ok (.aload_n 3, 1) := by decide +kernel
theorem dX7_strike_7 : decode cX7_strike 7 = .ok (.iload_n 2, 1) := by decide +kernel
theorem dX7_strike_8 : decode cX7_strike 8 = .ok (.invokevirtual 259, 3) := by decide +kernel
theorem dX7_strike_11 : decode cX7_strike 11 = .ok (.ifCond .ne 14, 3) := by decide +kernel
theorem dX7_strike_14 : decode cX7_strike 14 = .ok (.new 109, 3) := by decide +kernel
theorem dX7_strike_17 : decode cX7_strike 17 = .ok (.dup, 1) := by decide +kernel
theorem dX7_strike_18 : decode cX7_strike 18 = .ok (.ldc_w 262, 3) := by decide +kernel
theorem dX7_strike_21 : decode cX7_strike 21 = .ok (.invokespecial 113, 3) := by decide +kernel
theorem dX7_strike_24 : decode cX7_strike 24 = .ok (.athrow, 1) := by decide +kernel
theorem dX7_strike_25 : decode cX7_strike 25 = .ok (.aload_n 3, 1) := by decide +kernel
theorem dX7_strike_26 : decode cX7_strike 26 = .ok (.invokestatic 241, 3) := by decide +kernel
theorem dX7_strike_29 : decode cX7_strike 29 = .ok (.aload_n 0, 1) := by decide +kernel
theorem dX7_strike_30 : decode cX7_strike 30 = .ok (.iconst 1, 1) := by decide +kernel
theorem dX7_strike_31 : decode cX7_strike 31 = .ok (.invokevirtual 83, 3) := by decide +kernel
theorem dX7_strike_34 : decode cX7_strike 34 = .ok (.aload_n 3, 1) := by decide +kernel
theorem dX7_strike_35 : decode cX7_strike 35 = .ok (.iload_n 2, 1) := by decide +kernel
theorem dX7_strike_36 : decode cX7_strike 36 = .ok (.invokevirtual 264, 3) := by decide +kernel
theorem dX7_strike_39 : decode cX7_strike 39 = .ok (.aload_n 0, 1) := by decide +kernel
theorem dX7_strike_40 : decode cX7_strike 40 = .ok (.getfield 46, 3) := by decide +kernel
theorem dX7_strike_43 : decode cX7_strike 43 = .ok (.bipush 10, 2) := by decide +kernel
theorem dX7_strike_45 : decode cX7_strike 45 = .ok (.iload_n 1, 1) := by decide +kernel
theorem dX7_strike_46 : decode cX7_strike 46 = .ok (.iload_n 2, 1) := by decide +kernel
theorem dX7_strike_47 : decode cX7_strike 47 = .ok (.iconst 0, 1) := by decide +kernel
theorem dX7_strike_48 : decode cX7_strike 48 = .ok (.lconst 0, 1) := by decide +kernel
theorem dX7_strike_49 : decode cX7_strike 49 = .ok (.invokevirtual 98, 3) := by decide +kernel
theorem dX7_strike_52 : decode cX7_strike 52 = .ok (.aload_n 3, 1) := by decide +kernel
theorem dX7_strike_53 : decode cX7_strike 53 = .ok (.invokevirtual 229, 3) := by decide +kernel
theorem dX7_strike_56 : decode cX7_strike 56 = .ok (.ireturn, 1) := by decide +kernel
theorem dX7_carry_0 : decode cX7_carry 0 = .ok (.aload_n 0, 1) := by decide +kernel
theorem dX7_carry_1 : decode cX7_carry 1 = .ok (.iload_n 1, 1) := by decide +kernel
theorem dX7_carry_2 : decode cX7_carry 2 = .ok (.invokevirtual 231, 3) := by decide +kernel
theorem dX7_carry_5 : decode cX7_carry 5 = .ok (.astore 4, 2) := by decide +kernel
theorem dX7_carry_7 : decode cX7_carry 7 = .ok (.iload_n 2, 1) := by decide +kernel
theorem dX7_carry_8 : decode cX7_carry 8 = .ok (.invokestatic 56, 3) := by decide +kernel
theorem dX7_carry_11 : decode cX7_carry 11 = .ok (.aload_n 0, 1) := by decide +kernel
theorem dX7_carry_12 : decode cX7_carry 12 = .ok (.iload_n 3, 1) := by decide +kernel
theorem dX7_carry_13 : decode cX7_carry 13 = .ok (.invokevirtual 122, 3) := by decide +kernel
theorem dX7_carry_16 : decode cX7_carry 16 = .ok (.aload 4, 2) := by decide +kernel
theorem dX7_carry_18 : decode cX7_carry 18 = .ok (.invokestatic 241, 3) := by decide +kernel
theorem dX7_carry_21 : decode cX7_carry 21 = .ok (.aload_n 0, 1) := by decide +kernel
theorem dX7_carry_22 : decode cX7_carry 22 = .ok (.iload_n 2, 1) := by decide +kernel
theorem dX7_carry_23 : decode cX7_carry 23 = .ok (.iconst 4, 1) := by decide +kernel
theorem dX7_carry_24 : decode cX7_carry 24 = .ok (.invokevirtual 212, 3) := by decide +kernel
theorem dX7_carry_27 : decode cX7_carry 27 = .ok (.aload 4, 2) := by decide +kernel
theorem dX7_carry_29 : decode cX7_carry 29 = .ok (.invokevirtual 256, 3) := by decide +kernel
theorem dX7_carry_32 : decode cX7_carry 32 = .ok (.iconst 2, 1) := by decide +kernel
theorem dX7_carry_33 : decode cX7_carry 33 = .ok (.if_icmp .ge 14, 3) := by decide +kernel
theorem dX7_carry_36 : decode cX7_carry 36 = .ok (.new 89, 3) := by decide +kernel
theorem dX7_carry_39 : decode cX7_carry 39 = .ok (.dup, 1) := by decide +kernel
theorem dX7_carry_40 : decode cX7_carry 40 = .ok (.ldc_w 267, 3) := by decide +kernel
theorem dX7_carry_43 : decode cX7_carry 43 = .ok (.invokespecial 93, 3) := by decide +kernel
theorem dX7_carry_46 : decode cX7_carry 46 = .ok (.athrow, 1) := by decide +kernel
theorem dX7_carry_47 : decode cX7_carry 47 = .ok (.aload 4, 2) := by decide +kernel
theorem dX7_carry_49 : decode cX7_carry 49 = .ok (.getfield 269, 3) := by decide +kernel
theorem dX7_carry_52 : decode cX7_carry 52 = .ok (.aload_n 0, 1) := by decide +kernel
theorem dX7_carry_53 : decode cX7_carry 53 = .ok (.iload_n 3, 1) := by decide +kernel
theorem dX7_carry_54 : decode cX7_carry 54 = .ok (.invokevirtual 220, 3) := by decide +kernel
theorem dX7_carry_57 : decode cX7_carry 57 = .ok (.land, 1) := by decide +kernel
theorem dX7_carry_58 : decode cX7_carry 58 = .ok (.lstore 5, 2) := by decide +kernel
theorem dX7_carry_60 : decode cX7_carry 60 = .ok (.lload 5, 2) := by decide +kernel
theorem dX7_carry_62 : decode cX7_carry 62 = .ok (.invokestatic 272, 3) := by decide +kernel
theorem dX7_carry_65 : decode cX7_carry 65 = .ok (.istore 7, 2) := by decide +kernel
theorem dX7_carry_67 : decode cX7_carry 67 = .ok (.aload_n 0, 1) := by decide +kernel
theorem dX7_carry_68 : decode cX7_carry 68 = .ok (.iload 7, 2) := by decide +kernel
theorem dX7_carry_70 : decode cX7_carry 70 = .ok (.iconst 1, 1) := by decide +kernel
theorem dX7_carry_71 : decode cX7_carry 71 = .ok (.iadd, 1) := by decide +kernel
theorem dX7_carry_72 : decode cX7_carry 72 = .ok (.invokevirtual 83, 3) := by decide +kernel
theorem dX7_carry_75 : decode cX7_carry 75 = .ok (.aload_n 0, 1) := by decide +kernel
theorem dX7_carry_76 : decode cX7_carry 76 = .ok (.lload 5, 2) := by decide +kernel
theorem dX7_carry_78 : decode cX7_carry 78 = .ok (.iload_n 1, 1) := by decide +kernel
theorem dX7_carry_79 : decode cX7_carry 79 = .ok (.iload_n 3, 1) := by decide +kernel
theorem dX7_carry_80 : decode cX7_carry 80 = .ok (.invokevirtual 278, 3) := by decide +kernel
theorem dX7_carry_83 : decode cX7_carry 83 = .ok (.aload 4, 2) := by decide +kernel
theorem dX7_carry_85 : decode cX7_carry 85 = .ok (.iconst 0, 1) := by decide +kernel
theorem dX7_carry_86 : decode cX7_carry 86 = .ok (.putfield 282, 3) := by decide +kernel
theorem dX7_carry_89 : decode cX7_carry 89 = .ok (.aload_n 0, 1) := by decide +kernel
theorem dX7_carry_90 : decode cX7_carry 90 = .ok (.iload_n 3, 1) := by decide +kernel
theorem dX7_carry_91 : decode cX7_carry 91 = .ok (.putfield 130, 3) := by decide +kernel
theorem dX7_carry_94 : decode cX7_carry 94 = .ok (.aload_n 0, 1) := by decide +kernel
theorem dX7_carry_95 : decode cX7_carry 95 = .ok (.getfield 46, 3) := by decide +kernel
theorem dX7_carry_98 : decode cX7_carry 98 = .ok (.bipush 12, 2) := by decide +kernel
theorem dX7_carry_100 : decode cX7_carry 100 = .ok (.iload_n 1, 1) := by decide +kernel
theorem dX7_carry_101 : decode cX7_carry 101 = .ok (.iload_n 3, 1) := by decide +kernel
theorem dX7_carry_102 : decode cX7_carry 102 = .ok (.aload 4, 2) := by decide +kernel
theorem dX7_carry_104 : decode cX7_carry 104 = .ok (.invokevirtual 229, 3) := by decide +kernel
theorem dX7_carry_107 : decode cX7_carry 107 = .ok (.iload 7, 2) := by decide +kernel
theorem dX7_carry_109 : decode cX7_carry 109 = .ok (.isub, 1) := by decide +kernel
theorem dX7_carry_110 : decode cX7_carry 110 = .ok (.lconst 0, 1) := by decide +kernel
theorem dX7_carry_111 : decode cX7_carry 111 = .ok (.invokevirtual 98, 3) := by decide +kernel
theorem dX7_carry_114 : decode cX7_carry 114 = .ok (.iload 7, 2) := by decide +kernel
theorem dX7_carry_116 : decode cX7_carry 116 = .ok (.ireturn, 1) := by decide +kernel
theorem dX7_count_0 : decode cX7_count 0 = .ok (.iload_n 1, 1) := by decide +kernel
theorem dX7_count_1 : decode cX7_count 1 = .ok (.tableswitch 63 0 4 #[35, 40, 45, 53, 58], 35) := by decide +kernel
theorem dX7_count_36 : decode cX7_count 36 = .ok (.aload_n 0, 1) := by decide +kernel
theorem dX7_count_37 : decode cX7_count 37 = .ok (.getfield 104, 3) := by decide +kernel
theorem dX7_count_40 : decode cX7_count 40 = .ok (.ireturn, 1) := by decide +kernel
theorem dX7_count_41 : decode cX7_count 41 = .ok (.aload_n 0, 1) := by decide +kernel
theorem dX7_count_42 : decode cX7_count 42 = .ok (.getfield 215, 3) := by decide +kernel
theorem dX7_count_45 : decode cX7_count 45 = .ok (.ireturn, 1) := by decide +kernel
theorem dX7_count_46 : decode cX7_count 46 = .ok (.aload_n 0, 1) := by decide +kernel
theorem dX7_count_47 : decode cX7_count 47 = .ok (.getfield 46, 3) := by decide +kernel
theorem dX7_count_50 : decode cX7_count 50 = .ok (.getfield 285, 3) := by decide +kernel
theorem dX7_count_53 : decode cX7_count 53 = .ok (.ireturn, 1) := by decide +kernel
theorem dX7_count_54 : decode cX7_count 54 = .ok (.aload_n 0, 1) := by decide +kernel
theorem dX7_count_55 : decode cX7_count 55 = .ok (.getfield 130, 3) := by decide +kernel
theorem dX7_count_58 : decode cX7_count 58 = .ok (.ireturn, 1) := by decide +kernel
theorem dX7_count_59 : decode cX7_count 59 = .ok (.aload_n 0, 1) := by decide +kernel
theorem dX7_count_60 : decode cX7_count 60 = .ok (.invokevirtual 286, 3) := by decide +kernel
theorem dX7_count_63 : decode cX7_count 63 = .ok (.ireturn, 1) := by decide +kernel
theorem dX7_count_64 : decode cX7_count 64 = .ok (.new 60, 3) := by decide +kernel
theorem dX7_count_67 : decode cX7_count 67 = .ok (.dup, 1) := by decide +kernel
theorem dX7_count_68 : decode cX7_count 68 = .ok (.ldc_w 289, 3) := by decide +kernel
theorem dX7_count_71 : decode cX7_count 71 = .ok (.invokespecial 64, 3) := by decide +kernel
theorem dX7_count_74 : decode cX7_count 74 = .ok (.athrow, 1) := by decide +kernel
theorem dX7_act_0 : decode cX7_act 0 = .ok (.aload_n 0, 1) := by decide +kernel
theorem dX7_act_1 : decode cX7_act 1 = .ok (.iload_n 1, 1) := by decide +kernel
theorem dX7_act_2 : decode cX7_act 2 = .ok (.invokevirtual 291, 3) := by decide +kernel
theorem dX7_act_5 : decode cX7_act 5 = .ok (.iload_n 2, 1) := by decide +kernel
theorem dX7_act_6 : decode cX7_act 6 = .ok (.invokestatic 294, 3) := by decide +kernel
theorem dX7_act_9 : decode cX7_act 9 = .ok (.aload_n 0, 1) := by decide +kernel
theorem dX7_act_10 : decode cX7_act 10 = .ok (.getfield 46, 3) := by decide +kernel
theorem dX7_act_13 : decode cX7_act 13 = .ok (.iload_n 1, 1) := by decide +kernel
theorem dX7_act_14 : decode cX7_act 14 = .ok (.iload_n 2, 1) := by decide +kernel
theorem dX7_act_15 : decode cX7_act 15 = .ok (.invokevirtual 297, 3) := by decide +kernel
theorem dX7_act_18 : decode cX7_act 18 = .ok (.ireturn, 1) := by decide +kernel
theorem dX7_link_0 : decode cX7_link 0 = .ok (.aload_n 0, 1) := by decide +kernel
theorem dX7_link_1 : decode cX7_link 1 = .ok (.iload_n 1, 1) := by decide +kernel
theorem dX7_link_2 : decode cX7_link 2 = .ok (.invokevirtual 291, 3) := by decide +kernel
theorem dX7_link_5 : decode cX7_link 5 = .ok (.aload_n 0, 1) := by decide +kernel
theorem dX7_link_6 : decode cX7_link 6 = .ok (.getfield 46, 3) := by decide +kernel
theorem dX7_link_9 : decode cX7_link 9 = .ok (.getfield 300, 3) := by decide +kernel
theorem dX7_link_12 : decode cX7_link 12 = .ok (.iload_n 1, 1) := by decide +kernel
theorem dX7_link_13 : decode cX7_link 13 = .ok (.laload, 1) := by decide +kernel
theorem dX7_link_14 : decode cX7_link 14 = .ok (.lreturn, 1) := by decide +kernel
theorem dX7_spoil_0 : decode cX7_spoil 0 = .ok (.aload_n 0, 1) := by decide +kernel
theorem dX7_spoil_1 : decode cX7_spoil 1 = .ok (.iload_n 1, 1) := by decide +kernel
theorem dX7_spoil_2 : decode cX7_spoil 2 = .ok (.invokevirtual 291, 3) := by decide +kernel
theorem dX7_spoil_5 : decode cX7_spoil 5 = .ok (.iload_n 2, 1) := by decide +kernel
theorem dX7_spoil_6 : decode cX7_spoil 6 = .ok (.invokestatic 294, 3) := by decide +kernel
theorem dX7_spoil_9 : decode cX7_spoil 9 = .ok (.aload_n 0, 1) := by decide +kernel
theorem dX7_spoil_10 : decode cX7_spoil 10 = .ok (.getfield 46, 3) := by decide +kernel
theorem dX7_spoil_13 : decode cX7_spoil 13 = .ok (.iload_n 1, 1) := by decide +kernel
theorem dX7_spoil_14 : decode cX7_spoil 14 = .ok (.iload_n 2, 1) := by decide +kernel
theorem dX7_spoil_15 : decode cX7_spoil 15 = .ok (.iload_n 3, 1) := by decide +kernel
theorem dX7_spoil_16 : decode cX7_spoil 16 = .ok (.invokevirtual 304, 3) := by decide +kernel
theorem dX7_spoil_19 : decode cX7_spoil 19 = .ok (.return_, 1) := by decide +kernel
set_option maxRecDepth 20000 in
theorem ggX7_broken_X0_number : GoodIn wsX7_broken wsX0_number := goodIn_r _ [8, 9, 39, 40, 41] (by decide +kernel) (by decide +kernel)
set_option maxRecDepth 20000 in
theorem gX7_broken_X0_number : GoodIn wsX7_broken (wsV RX7 297 RX0 yX0_number wsX0_number) := goodIn_app (goodIn_of _ (by decide +kernel)) ggX7_broken_X0_number
set_option maxRecDepth 20000 in
theorem ggX7_broken_X7_digestOf : GoodIn wsX7_broken wsX7_digestOf := goodIn_r _ [14, 15, 16, 17, 28, 29, 30, 31, 32, 33, 34, 35, 36, 37, 38, 42, 43, 44, 45, 46, 47, 48, 49] (by decide +kernel) (by decide +kernel)
set_option maxRecDepth 20000 in
theorem gX7_broken_X7_digestOf : GoodIn wsX7_broken (wsV RX7 308 RX7 yX7_digestOf wsX7_digestOf) := goodIn_app (goodIn_of _ (by decide +kernel)) ggX7_broken_X7_digestOf
set_option maxRecDepth 20000 in
theorem ggX7_broken_X0_linkFor : GoodIn wsX7_broken wsX0_linkFor := goodIn_r _ [21, 22, 23, 5, 6, 7, 8, 9, 24, 25, 26, 27, 39, 40, 41] (by decide +kernel) (by decide +kernel)
set_option maxRecDepth 20000 in
theorem gX7_broken_X0_linkFor : GoodIn wsX7_broken (wsV RX7 311 RX0 yX0_linkFor wsX0_linkFor) := goodIn_app (goodIn_of _ (by decide +kernel)) ggX7_broken_X0_linkFor
theorem dX7_broken_0 : decode cX7_broken 0 = .ok (.iconst 0, 1) := by decide +kernel
theorem dX7_broken_1 : decode cX7_broken 1 = .ok (.istore_n 1, 1) := by decide +kernel
theorem dX7_broken_2 : decode cX7_broken 2 = .ok (.iload_n 1, 1) := by decide +kernel
theorem dX7_broken_3 : decode cX7_broken 3 = .ok (.aload_n 0, 1) := by decide +kernel
theorem dX7_broken_4 : decode cX7_broken 4 = .ok (.getfield 46, 3) := by decide +kernel
theorem dX7_broken_7 : decode cX7_broken 7 = .ok (.getfield 285, 3) := by decide +kernel
theorem dX7_broken_10 : decode cX7_broken 10 = .ok (.if_icmp .ge 45, 3) := by decide +kernel
theorem dX7_broken_13 : decode cX7_broken 13 = .ok (.aload_n 0, 1) := by decide +kernel
theorem dX7_broken_14 : decode cX7_broken 14 = .ok (.getfield 46, 3) := by decide +kernel
theorem dX7_broken_17 : decode cX7_broken 17 = .ok (.getfield 300, 3) := by decide +kernel
theorem dX7_broken_20 : decode cX7_broken 20 = .ok (.iload_n 1, 1) := by decide +kernel
theorem dX7_broken_21 : decode cX7_broken 21 = .ok (.laload, 1) := by decide +kernel
theorem dX7_broken_22 : decode cX7_broken 22 = .ok (.aload_n 0, 1) := by decide +kernel
theorem dX7_broken_23 : decode cX7_broken 23 = .ok (.getfield 46, 3) := by decide +kernel
theorem dX7_broken_26 : decode cX7_broken 26 = .ok (.iload_n 1, 1) := by decide +kernel
theorem dX7_broken_27 : decode cX7_broken 27 = .ok (.aload_n 0, 1) := by decide +kernel
theorem dX7_broken_28 : decode cX7_broken 28 = .ok (.aload_n 0, 1) := by decide +kernel
theorem dX7_broken_29 : decode cX7_broken 29 = .ok (.getfield 46, 3) := by decide +kernel
theorem dX7_broken_32 : decode cX7_broken 32 = .ok (.iload_n 1, 1) := by decide +kernel
theorem dX7_broken_33 : decode cX7_broken 33 = .ok (.iconst 1, 1) := by decide +kernel
theorem dX7_broken_34 : decode cX7_broken 34 = .ok (.invokevirtual 297, 3) := by decide +kernel
theorem dX7_broken_37 : decode cX7_broken 37 = .ok (.invokevirtual 308, 3) := by decide +kernel
theorem dX7_broken_40 : decode cX7_broken 40 = .ok (.invokevirtual 311, 3) := by decide +kernel
theorem dX7_broken_43 : decode cX7_broken 43 = .ok (.lcmp, 1) := by decide +kernel
theorem dX7_broken_44 : decode cX7_broken 44 = .ok (.ifCond .eq 5, 3) := by decide +kernel
theorem dX7_broken_47 : decode cX7_broken 47 = .ok (.iload_n 1, 1) := by decide +kernel
theorem dX7_broken_48 : decode cX7_broken 48 = .ok (.ireturn, 1) := by decide +kernel
theorem dX7_broken_49 : decode cX7_broken 49 = .ok (.iinc 1 1, 3) := by decide +kernel
theorem dX7_broken_52 : decode cX7_broken 52 = .ok (.goto (-50), 3) := by decide +kernel
theorem dX7_broken_55 : decode cX7_broken 55 = .ok (.iconst (-1), 1) := by decide +kernel
theorem dX7_broken_56 : decode cX7_broken 56 = .ok (.ireturn, 1) := by decide +kernel
theorem dX7_later_0 : decode cX7_later 0 = .ok (.iload_n 1, 1) := by decide +kernel
theorem dX7_later_1 : decode cX7_later 1 = .ok (.invokestatic 74, 3) := by decide +kernel
theorem dX7_later_4 : decode cX7_later 4 = .ok (.iload_n 2, 1) := by decide +kernel
theorem dX7_later_5 : decode cX7_later 5 = .ok (.iload_n 3, 1) := by decide +kernel
theorem dX7_later_6 : decode cX7_later 6 = .ok (.invokestatic 70, 3) := by decide +kernel
theorem dX7_later_9 : decode cX7_later 9 = .ok (.iload_n 1, 1) := by decide +kernel
theorem dX7_later_10 : decode cX7_later 10 = .ok (.iload_n 2, 1) := by decide +kernel
theorem dX7_later_11 : decode cX7_later 11 = .ok (.bipush 12, 2) := by decide +kernel
theorem dX7_later_13 : decode cX7_later 13 = .ok (.imul, 1) := by decide +kernel
theorem dX7_later_14 : decode cX7_later 14 = .ok (.iload_n 3, 1) := by decide +kernel
theorem dX7_later_15 : decode cX7_later 15 = .ok (.iadd, 1) := by decide +kernel
theorem dX7_later_16 : decode cX7_later 16 = .ok (.invokestatic 315, 3) := by decide +kernel
theorem dX7_later_19 : decode cX7_later 19 = .ok (.ireturn, 1) := by decide +kernel
theorem dX7_needClass_0 : decode cX7_needClass 0 = .ok (.iload_n 0, 1) := by decide +kernel
theorem dX7_needClass_1 : decode cX7_needClass 1 = .ok (.ifCond .lt 9, 3) := by decide +kernel
theorem dX7_needClass_4 : decode cX7_needClass 4 = .ok (.iload_n 0, 1) := by decide +kernel
theorem dX7_needClass_5 : decode cX7_needClass 5 = .ok (.bipush 8, 2) := by decide +kernel
theorem dX7_needClass_7 : decode cX7_needClass 7 = .ok (.if_icmp .lt 14, 3) := by decide +kernel
theorem dX7_needClass_10 : decode cX7_needClass 10 = .ok (.new 109, 3) := by decide +kernel
theorem dX7_needClass_13 : decode cX7_needClass 13 = .ok (.dup, 1) := by decide +kernel
theorem dX7_needClass_14 : decode cX7_needClass 14 = .ok (.ldc_w 320, 3) := by decide +kernel
theorem dX7_needClass_17 : decode cX7_needClass 17 = .ok (.invokespecial 113, 3) := by decide +kernel
theorem dX7_needClass_20 : decode cX7_needClass 20 = .ok (.athrow, 1) := by decide +kernel
theorem dX7_needClass_21 : decode cX7_needClass 21 = .ok (.return_, 1) := by decide +kernel
theorem dX7_needHold_0 : decode cX7_needHold 0 = .ok (.iload_n 0, 1) := by decide +kernel
theorem dX7_needHold_1 : decode cX7_needHold 1 = .ok (.ifCond .lt 9, 3) := by decide +kernel
theorem dX7_needHold_4 : decode cX7_needHold 4 = .ok (.iload_n 0, 1) := by decide +kernel
theorem dX7_needHold_5 : decode cX7_needHold 5 = .ok (.bipush 8, 2) := by decide +kernel
theorem dX7_needHold_7 : decode cX7_needHold 7 = .ok (.if_icmp .lt 14, 3) := by decide +kernel
theorem dX7_needHold_10 : decode cX7_needHold 10 = .ok (.new 109, 3) := by decide +kernel
theorem dX7_needHold_13 : decode cX7_needHold 13 = .ok (.dup, 1) := by decide +kernel
theorem dX7_needHold_14 : decode cX7_needHold 14 = .ok (.ldc_w 322, 3) := by decide +kernel
theorem dX7_needHold_17 : decode cX7_needHold 17 = .ok (.invokespecial 113, 3) := by decide +kernel
theorem dX7_needHold_20 : decode cX7_needHold 20 = .ok (.athrow, 1) := by decide +kernel
theorem dX7_needHold_21 : decode cX7_needHold 21 = .ok (.return_, 1) := by decide +kernel
theorem dX7_needOfficer_0 : decode cX7_needOfficer 0 = .ok (.iload_n 0, 1) := by decide +kernel
theorem dX7_needOfficer_1 : decode cX7_needOfficer 1 = .ok (.ifCond .lt 9, 3) := by decide +kernel
theorem dX7_needOfficer_4 : decode cX7_needOfficer 4 = .ok (.iload_n 0, 1) := by decide +kernel
theorem dX7_needOfficer_5 : decode cX7_needOfficer 5 = .ok (.bipush 8, 2) := by decide +kernel
theorem dX7_needOfficer_7 : decode cX7_needOfficer 7 = .ok (.if_icmp .lt 14, 3) := by decide +kernel
theorem dX7_needOfficer_10 : decode cX7_needOfficer 10 = .ok (.new 109, 3) := by decide +kernel
theorem dX7_needOfficer_13 : decode cX7_needOfficer 13 = .ok (.dup, 1) := by decide +kernel
theorem dX7_needOfficer_14 : decode cX7_needOfficer 14 = .ok (.ldc_w 324, 3) := by decide +kernel
theorem dX7_needOfficer_17 : decode cX7_needOfficer 17 = .ok (.invokespecial 113, 3) := by decide +kernel
theorem dX7_needOfficer_20 : decode cX7_needOfficer 20 = .ok (.athrow, 1) := by decide +kernel
theorem dX7_needOfficer_21 : decode cX7_needOfficer 21 = .ok (.return_, 1) := by decide +kernel
theorem dX7_needAct_0 : decode cX7_needAct 0 = .ok (.iload_n 1, 1) := by decide +kernel
theorem dX7_needAct_1 : decode cX7_needAct 1 = .ok (.ifCond .lt 14, 3) := by decide +kernel
theorem dX7_needAct_4 : decode cX7_needAct 4 = .ok (.iload_n 1, 1) := by decide +kernel
theorem dX7_needAct_5 : decode cX7_needAct 5 = .ok (.aload_n 0, 1) := by decide +kernel
theorem dX7_needAct_6 : decode cX7_needAct 6 = .ok (.getfield 46, 3) := by decide +kernel
theorem dX7_needAct_9 : decode cX7_needAct 9 = .ok (.getfield 285, 3) := by decide +kernel
theorem dX7_needAct_12 : decode cX7_needAct 12 = .ok (.if_icmp .lt 14, 3) := by decide +kernel
theorem dX7_needAct_15 : decode cX7_needAct 15 = .ok (.new 109, 3) := by decide +kernel
theorem dX7_needAct_18 : decode cX7_needAct 18 = .ok (.dup, 1) := by decide +kernel
theorem dX7_needAct_19 : decode cX7_needAct 19 = .ok (.ldc_w 326, 3) := by decide +kernel
theorem dX7_needAct_22 : decode cX7_needAct 22 = .ok (.invokespecial 113, 3) := by decide +kernel
theorem dX7_needAct_25 : decode cX7_needAct 25 = .ok (.athrow, 1) := by decide +kernel
theorem dX7_needAct_26 : decode cX7_needAct 26 = .ok (.return_, 1) := by decide +kernel
theorem dX7_folderAt_0 : decode cX7_folderAt 0 = .ok (.iload_n 1, 1) := by decide +kernel
theorem dX7_folderAt_1 : decode cX7_folderAt 1 = .ok (.ifCond .lt 18, 3) := by decide +kernel
theorem dX7_folderAt_4 : decode cX7_folderAt 4 = .ok (.iload_n 1, 1) := by decide +kernel
theorem dX7_folderAt_5 : decode cX7_folderAt 5 = .ok (.bipush 16, 2) := by decide +kernel
theorem dX7_folderAt_7 : decode cX7_folderAt 7 = .ok (.if_icmp .ge 12, 3) := by decide +kernel
theorem dX7_folderAt_10 : decode cX7_folderAt 10 = .ok (.aload_n 0, 1) := by decide +kernel
theorem dX7_folderAt_11 : decode cX7_folderAt 11 = .ok (.getfield 21, 3) := by decide +kernel
theorem dX7_folderAt_14 : decode cX7_folderAt 14 = .ok (.iload_n 1, 1) := by decide +kernel
theorem dX7_folderAt_15 : decode cX7_folderAt 15 = .ok (.aaload, 1) := by decide +kernel
theorem dX7_folderAt_16 : decode cX7_folderAt 16 = .ok (.ifnonnull 13, 3) := by decide +kernel
theorem dX7_folderAt_19 : decode cX7_folderAt 19 = .ok (.new 109, 3) := by decide +kernel
theorem dX7_folderAt_22 : decode cX7_folderAt 22 = .ok (.dup, 1) := by decide +kernel
theorem dX7_folderAt_23 : decode cX7_folderAt 23 = .ok (.ldc 111, 2) := by decide +kernel
theorem dX7_folderAt_25 : decode cX7_folderAt 25 = .ok (.invokespecial 113, 3) := by decide +kernel
theorem dX7_folderAt_28 : decode cX7_folderAt 28 = .ok (.athrow, 1) := by decide +kernel
theorem dX7_folderAt_29 : decode cX7_folderAt 29 = .ok (.aload_n 0, 1) := by decide +kernel
theorem dX7_folderAt_30 : decode cX7_folderAt 30 = .ok (.getfield 21, 3) := by decide +kernel
theorem dX7_folderAt_33 : decode cX7_folderAt 33 = .ok (.iload_n 1, 1) := by decide +kernel
theorem dX7_folderAt_34 : decode cX7_folderAt 34 = .ok (.aaload, 1) := by decide +kernel
theorem dX7_folderAt_35 : decode cX7_folderAt 35 = .ok (.areturn, 1) := by decide +kernel
theorem dX7_recordAt_0 : decode cX7_recordAt 0 = .ok (.iload_n 1, 1) := by decide +kernel
theorem dX7_recordAt_1 : decode cX7_recordAt 1 = .ok (.ifCond .lt 11, 3) := by decide +kernel
theorem dX7_recordAt_4 : decode cX7_recordAt 4 = .ok (.iload_n 1, 1) := by decide +kernel
theorem dX7_recordAt_5 : decode cX7_recordAt 5 = .ok (.aload_n 0, 1) := by decide +kernel
theorem dX7_recordAt_6 : decode cX7_recordAt 6 = .ok (.getfield 104, 3) := by decide +kernel
theorem dX7_recordAt_9 : decode cX7_recordAt 9 = .ok (.if_icmp .lt 14, 3) := by decide +kernel
theorem dX7_recordAt_12 : decode cX7_recordAt 12 = .ok (.new 109, 3) := by decide +kernel
theorem dX7_recordAt_15 : decode cX7_recordAt 15 = .ok (.dup, 1) := by decide +kernel
theorem dX7_recordAt_16 : decode cX7_recordAt 16 = .ok (.ldc_w 328, 3) := by decide +kernel
theorem dX7_recordAt_19 : decode cX7_recordAt 19 = .ok (.invokespecial 113, 3) := by decide +kernel
theorem dX7_recordAt_22 : decode cX7_recordAt 22 = .ok (.athrow, 1) := by decide +kernel
theorem dX7_recordAt_23 : decode cX7_recordAt 23 = .ok (.aload_n 0, 1) := by decide +kernel
theorem dX7_recordAt_24 : decode cX7_recordAt 24 = .ok (.getfield 33, 3) := by decide +kernel
theorem dX7_recordAt_27 : decode cX7_recordAt 27 = .ok (.iload_n 1, 1) := by decide +kernel
theorem dX7_recordAt_28 : decode cX7_recordAt 28 = .ok (.aaload, 1) := by decide +kernel
theorem dX7_recordAt_29 : decode cX7_recordAt 29 = .ok (.areturn, 1) := by decide +kernel
theorem dX7_listAt_0 : decode cX7_listAt 0 = .ok (.iload_n 1, 1) := by decide +kernel
theorem dX7_listAt_1 : decode cX7_listAt 1 = .ok (.ifCond .lt 11, 3) := by decide +kernel
theorem dX7_listAt_4 : decode cX7_listAt 4 = .ok (.iload_n 1, 1) := by decide +kernel
theorem dX7_listAt_5 : decode cX7_listAt 5 = .ok (.aload_n 0, 1) := by decide +kernel
theorem dX7_listAt_6 : decode cX7_listAt 6 = .ok (.getfield 215, 3) := by decide +kernel
theorem dX7_listAt_9 : decode cX7_listAt 9 = .ok (.if_icmp .lt 14, 3) := by decide +kernel
theorem dX7_listAt_12 : decode cX7_listAt 12 = .ok (.new 109, 3) := by decide +kernel
theorem dX7_listAt_15 : decode cX7_listAt 15 = .ok (.dup, 1) := by decide +kernel
theorem dX7_listAt_16 : decode cX7_listAt 16 = .ok (.ldc_w 330, 3) := by decide +kernel
theorem dX7_listAt_19 : decode cX7_listAt 19 = .ok (.invokespecial 113, 3) := by decide +kernel
theorem dX7_listAt_22 : decode cX7_listAt 22 = .ok (.athrow, 1) := by decide +kernel
theorem dX7_listAt_23 : decode cX7_listAt 23 = .ok (.aload_n 0, 1) := by decide +kernel
theorem dX7_listAt_24 : decode cX7_listAt 24 = .ok (.getfield 39, 3) := by decide +kernel
theorem dX7_listAt_27 : decode cX7_listAt 27 = .ok (.iload_n 1, 1) := by decide +kernel
theorem dX7_listAt_28 : decode cX7_listAt 28 = .ok (.aaload, 1) := by decide +kernel
theorem dX7_listAt_29 : decode cX7_listAt 29 = .ok (.areturn, 1) := by decide +kernel
theorem dX7_needTerm_0 : decode cX7_needTerm 0 = .ok (.iload_n 0, 1) := by decide +kernel
theorem dX7_needTerm_1 : decode cX7_needTerm 1 = .ok (.ifCond .lt 19, 3) := by decide +kernel
theorem dX7_needTerm_4 : decode cX7_needTerm 4 = .ok (.iload_n 0, 1) := by decide +kernel
theorem dX7_needTerm_5 : decode cX7_needTerm 5 = .ok (.bipush 100, 2) := by decide +kernel
theorem dX7_needTerm_7 : decode cX7_needTerm 7 = .ok (.if_icmp .gt 13, 3) := by decide +kernel
theorem dX7_needTerm_10 : decode cX7_needTerm 10 = .ok (.iload_n 1, 1) := by decide +kernel
theorem dX7_needTerm_11 : decode cX7_needTerm 11 = .ok (.ifCond .lt 9, 3) := by decide +kernel
theorem dX7_needTerm_14 : decode cX7_needTerm 14 = .ok (.iload_n 1, 1) := by decide +kernel
theorem dX7_needTerm_15 : decode cX7_needTerm 15 = .ok (.bipush 11, 2) := by decide +kernel
theorem dX7_needTerm_17 : decode cX7_needTerm 17 = .ok (.if_icmp .le 14, 3) := by decide +kernel
theorem dX7_needTerm_20 : decode cX7_needTerm 20 = .ok (.new 60, 3) := by decide +kernel
theorem dX7_needTerm_23 : decode cX7_needTerm 23 = .ok (.dup, 1) := by decide +kernel
theorem dX7_needTerm_24 : decode cX7_needTerm 24 = .ok (.ldc_w 332, 3) := by decide +kernel
theorem dX7_needTerm_27 : decode cX7_needTerm 27 = .ok (.invokespecial 64, 3) := by decide +kernel
theorem dX7_needTerm_30 : decode cX7_needTerm 30 = .ok (.athrow, 1) := by decide +kernel
theorem dX7_needTerm_31 : decode cX7_needTerm 31 = .ok (.return_, 1) := by decide +kernel
theorem dX7_needDay_0 : decode cX7_needDay 0 = .ok (.iload_n 0, 1) := by decide +kernel
theorem dX7_needDay_1 : decode cX7_needDay 1 = .ok (.ifCond .lt 10, 3) := by decide +kernel
theorem dX7_needDay_4 : decode cX7_needDay 4 = .ok (.iload_n 0, 1) := by decide +kernel
theorem dX7_needDay_5 : decode cX7_needDay 5 = .ok (.ldc_w 334, 3) := by decide +kernel
theorem dX7_needDay_8 : decode cX7_needDay 8 = .ok (.if_icmp .le 14, 3) := by decide +kernel
theorem dX7_needDay_11 : decode cX7_needDay 11 = .ok (.new 60, 3) := by decide +kernel
theorem dX7_needDay_14 : decode cX7_needDay 14 = .ok (.dup, 1) := by decide +kernel
theorem dX7_needDay_15 : decode cX7_needDay 15 = .ok (.ldc_w 335, 3) := by decide +kernel
theorem dX7_needDay_18 : decode cX7_needDay 18 = .ok (.invokespecial 64, 3) := by decide +kernel
theorem dX7_needDay_21 : decode cX7_needDay 21 = .ok (.athrow, 1) := by decide +kernel
theorem dX7_needDay_22 : decode cX7_needDay 22 = .ok (.return_, 1) := by decide +kernel
theorem dX7_needDayOfAct_0 : decode cX7_needDayOfAct 0 = .ok (.iload_n 1, 1) := by decide +kernel
theorem dX7_needDayOfAct_1 : decode cX7_needDayOfAct 1 = .ok (.invokestatic 74, 3) := by decide +kernel
theorem dX7_needDayOfAct_4 : decode cX7_needDayOfAct 4 = .ok (.iload_n 1, 1) := by decide +kernel
theorem dX7_needDayOfAct_5 : decode cX7_needDayOfAct 5 = .ok (.aload_n 0, 1) := by decide +kernel
theorem dX7_needDayOfAct_6 : decode cX7_needDayOfAct 6 = .ok (.getfield 130, 3) := by decide +kernel
theorem dX7_needDayOfAct_9 : decode cX7_needDayOfAct 9 = .ok (.if_icmp .ge 14, 3) := by decide +kernel
theorem dX7_needDayOfAct_12 : decode cX7_needDayOfAct 12 = .ok (.new 60, 3) := by decide +kernel
theorem dX7_needDayOfAct_15 : decode cX7_needDayOfAct 15 = .ok (.dup, 1) := by decide +kernel
theorem dX7_needDayOfAct_16 : decode cX7_needDayOfAct 16 = .ok (.ldc_w 337, 3) := by decide +kernel
theorem dX7_needDayOfAct_19 : decode cX7_needDayOfAct 19 = .ok (.invokespecial 64, 3) := by decide +kernel
theorem dX7_needDayOfAct_22 : decode cX7_needDayOfAct 22 = .ok (.athrow, 1) := by decide +kernel
theorem dX7_needDayOfAct_23 : decode cX7_needDayOfAct 23 = .ok (.return_, 1) := by decide +kernel
theorem dX7_needKeyOrNone_0 : decode cX7_needKeyOrNone 0 = .ok (.iload_n 0, 1) := by decide +kernel
theorem dX7_needKeyOrNone_1 : decode cX7_needKeyOrNone 1 = .ok (.iconst (-1), 1) := by decide +kernel
theorem dX7_needKeyOrNone_2 : decode cX7_needKeyOrNone 2 = .ok (.if_icmp .lt 9, 3) := by decide +kernel
theorem dX7_needKeyOrNone_5 : decode cX7_needKeyOrNone 5 = .ok (.iload_n 0, 1) := by decide +kernel
theorem dX7_needKeyOrNone_6 : decode cX7_needKeyOrNone 6 = .ok (.bipush 99, 2) := by decide +kernel
theorem dX7_needKeyOrNone_8 : decode cX7_needKeyOrNone 8 = .ok (.if_icmp .le 14, 3) := by decide +kernel
theorem dX7_needKeyOrNone_11 : decode cX7_needKeyOrNone 11 = .ok (.new 60, 3) := by decide +kernel
theorem dX7_needKeyOrNone_14 : decode cX7_needKeyOrNone 14 = .ok (.dup, 1) := by decide +kernel
theorem dX7_needKeyOrNone_15 : decode cX7_needKeyOrNone 15 = .ok (.ldc_w 339, 3) := by decide +kernel
theorem dX7_needKeyOrNone_18 : decode cX7_needKeyOrNone 18 = .ok (.invokespecial 64, 3) := by decide +kernel
theorem dX7_needKeyOrNone_21 : decode cX7_needKeyOrNone 21 = .ok (.athrow, 1) := by decide +kernel
theorem dX7_needKeyOrNone_22 : decode cX7_needKeyOrNone 22 = .ok (.return_, 1) := by decide +kernel
theorem dX7_needNumberOfAct_0 : decode cX7_needNumberOfAct 0 = .ok (.iload_n 0, 1) := by decide +kernel
theorem dX7_needNumberOfAct_1 : decode cX7_needNumberOfAct 1 = .ok (.ifCond .lt 8, 3) := by decide +kernel
theorem dX7_needNumberOfAct_4 : decode cX7_needNumberOfAct 4 = .ok (.iload_n 0, 1) := by decide +kernel
theorem dX7_needNumberOfAct_5 : decode cX7_needNumberOfAct 5 = .ok (.iconst 4, 1) := by decide +kernel
theorem dX7_needNumberOfAct_6 : decode cX7_needNumberOfAct 6 = .ok (.if_icmp .lt 14, 3) := by decide +kernel
theorem dX7_needNumberOfAct_9 : decode cX7_needNumberOfAct 9 = .ok (.new 60, 3) := by decide +kernel
theorem dX7_needNumberOfAct_12 : decode cX7_needNumberOfAct 12 = .ok (.dup, 1) := by decide +kernel
theorem dX7_needNumberOfAct_13 : decode cX7_needNumberOfAct 13 = .ok (.ldc_w 341, 3) := by decide +kernel
theorem dX7_needNumberOfAct_16 : decode cX7_needNumberOfAct 16 = .ok (.invokespecial 64, 3) := by decide +kernel
theorem dX7_needNumberOfAct_19 : decode cX7_needNumberOfAct 19 = .ok (.athrow, 1) := by decide +kernel
theorem dX7_needNumberOfAct_20 : decode cX7_needNumberOfAct 20 = .ok (.return_, 1) := by decide +kernel
theorem dX7_needRoom_0 : decode cX7_needRoom 0 = .ok (.sipush 400, 3) := by decide +kernel
theorem dX7_needRoom_3 : decode cX7_needRoom 3 = .ok (.aload_n 0, 1) := by decide +kernel
theorem dX7_needRoom_4 : decode cX7_needRoom 4 = .ok (.getfield 46, 3) := by decide +kernel
theorem dX7_needRoom_7 : decode cX7_needRoom 7 = .ok (.getfield 285, 3) := by decide +kernel
theorem dX7_needRoom_10 : decode cX7_needRoom 10 = .ok (.isub, 1) := by decide +kernel
theorem dX7_needRoom_11 : decode cX7_needRoom 11 = .ok (.iload_n 1, 1) := by decide +kernel
theorem dX7_needRoom_12 : decode cX7_needRoom 12 = .ok (.if_icmp .ge 14, 3) := by decide +kernel
theorem dX7_needRoom_15 : decode cX7_needRoom 15 = .ok (.new 89, 3) := by decide +kernel
theorem dX7_needRoom_18 : decode cX7_needRoom 18 = .ok (.dup, 1) := by decide +kernel
theorem dX7_needRoom_19 : decode cX7_needRoom 19 = .ok (.ldc_w 343, 3) := by decide +kernel
theorem dX7_needRoom_22 : decode cX7_needRoom 22 = .ok (.invokespecial 93, 3) := by decide +kernel
theorem dX7_needRoom_25 : decode cX7_needRoom 25 = .ok (.athrow, 1) := by decide +kernel
theorem dX7_needRoom_26 : decode cX7_needRoom 26 = .ok (.return_, 1) := by decide +kernel
theorem dX7_needRight_0 : decode cX7_needRight 0 = .ok (.aload_n 0, 1) := by decide +kernel
theorem dX7_needRight_1 : decode cX7_needRight 1 = .ok (.getfield 9, 3) := by decide +kernel
theorem dX7_needRight_4 : decode cX7_needRight 4 = .ok (.iload_n 1, 1) := by decide +kernel
theorem dX7_needRight_5 : decode cX7_needRight 5 = .ok (.iaload, 1) := by decide +kernel
theorem dX7_needRight_6 : decode cX7_needRight 6 = .ok (.iload_n 2, 1) := by decide +kernel
theorem dX7_needRight_7 : decode cX7_needRight 7 = .ok (.iand, 1) := by decide +kernel
theorem dX7_needRight_8 : decode cX7_needRight 8 = .ok (.ifCond .ne 14, 3) := by decide +kernel
theorem dX7_needRight_11 : decode cX7_needRight 11 = .ok (.new 89, 3) := by decide +kernel
theorem dX7_needRight_14 : decode cX7_needRight 14 = .ok (.dup, 1) := by decide +kernel
theorem dX7_needRight_15 : decode cX7_needRight 15 = .ok (.ldc_w 345, 3) := by decide +kernel
theorem dX7_needRight_18 : decode cX7_needRight 18 = .ok (.invokespecial 93, 3) := by decide +kernel
theorem dX7_needRight_21 : decode cX7_needRight 21 = .ok (.athrow, 1) := by decide +kernel
theorem dX7_needRight_22 : decode cX7_needRight 22 = .ok (.return_, 1) := by decide +kernel
theorem dX7_needOpen_0 : decode cX7_needOpen 0 = .ok (.aload_n 0, 1) := by decide +kernel
theorem dX7_needOpen_1 : decode cX7_needOpen 1 = .ok (.getfield 282, 3) := by decide +kernel
theorem dX7_needOpen_4 : decode cX7_needOpen 4 = .ok (.ifCond .ne 14, 3) := by decide +kernel
theorem dX7_needOpen_7 : decode cX7_needOpen 7 = .ok (.new 89, 3) := by decide +kernel
theorem dX7_needOpen_10 : decode cX7_needOpen 10 = .ok (.dup, 1) := by decide +kernel
theorem dX7_needOpen_11 : decode cX7_needOpen 11 = .ok (.ldc_w 347, 3) := by decide +kernel
theorem dX7_needOpen_14 : decode cX7_needOpen 14 = .ok (.invokespecial 93, 3) := by decide +kernel
theorem dX7_needOpen_17 : decode cX7_needOpen 17 = .ok (.athrow, 1) := by decide +kernel
theorem dX7_needOpen_18 : decode cX7_needOpen 18 = .ok (.return_, 1) := by decide +kernel
set_option maxRecDepth 20000 in
theorem ggX7_holdsOver_X5_covers : GoodIn wsX7_holdsOver wsX5_covers := goodIn_r _ [6, 7, 8, 9, 10, 11, 12, 13, 14, 15, 16, 17, 18, 19, 20, 21, 22, 23, 24, 25, 26, 27, 28, 40, 41, 42, 43, 44, 45, 46, 47, 48, 49, 50, 51, 52, 53, 54, 55, 56, 57] (by decide +kernel) (by decide +kernel)
set_option maxRecDepth 20000 in
theorem gX7_holdsOver_X5_covers : GoodIn wsX7_holdsOver (wsV RX7 349 RX5 yX5_covers wsX5_covers) := goodIn_app (goodIn_of _ (by decide +kernel)) ggX7_holdsOver_X5_covers
theorem dX7_holdsOver_0 : decode cX7_holdsOver 0 = .ok (.iconst 0, 1) := by decide +kernel
theorem dX7_holdsOver_1 : decode cX7_holdsOver 1 = .ok (.istore_n 2, 1) := by decide +kernel
theorem dX7_holdsOver_2 : decode cX7_holdsOver 2 = .ok (.iconst 0, 1) := by decide +kernel
theorem dX7_holdsOver_3 : decode cX7_holdsOver 3 = .ok (.istore_n 3, 1) := by decide +kernel
theorem dX7_holdsOver_4 : decode cX7_holdsOver 4 = .ok (.iload_n 3, 1) := by decide +kernel
theorem dX7_holdsOver_5 : decode cX7_holdsOver 5 = .ok (.bipush 8, 2) := by decide +kernel
theorem dX7_holdsOver_7 : decode cX7_holdsOver 7 = .ok (.if_icmp .ge 25, 3) := by decide +kernel
theorem dX7_holdsOver_10 : decode cX7_holdsOver 10 = .ok (.aload_n 0, 1) := by decide +kernel
theorem dX7_holdsOver_11 : decode cX7_holdsOver 11 = .ok (.getfield 27, 3) := by decide +kernel
theorem dX7_holdsOver_14 : decode cX7_holdsOver 14 = .ok (.iload_n 3, 1) := by decide +kernel
theorem dX7_holdsOver_15 : decode cX7_holdsOver 15 = .ok (.aaload, 1) := by decide +kernel
theorem dX7_holdsOver_16 : decode cX7_holdsOver 16 = .ok (.aload_n 1, 1) := by decide +kernel
theorem dX7_holdsOver_17 : decode cX7_holdsOver 17 = .ok (.invokevirtual 349, 3) := by decide +kernel
theorem dX7_holdsOver_20 : decode cX7_holdsOver 20 = .ok (.ifCond .eq 6, 3) := by decide +kernel
theorem dX7_holdsOver_23 : decode cX7_holdsOver 23 = .ok (.iinc 2 1, 3) := by decide +kernel
theorem dX7_holdsOver_26 : decode cX7_holdsOver 26 = .ok (.iinc 3 1, 3) := by decide +kernel
theorem dX7_holdsOver_29 : decode cX7_holdsOver 29 = .ok (.goto (-25), 3) := by decide +kernel
theorem dX7_holdsOver_32 : decode cX7_holdsOver 32 = .ok (.iload_n 2, 1) := by decide +kernel
theorem dX7_holdsOver_33 : decode cX7_holdsOver 33 = .ok (.ireturn, 1) := by decide +kernel
set_option maxRecDepth 20000 in
theorem ggX7_eventDay_X1_fiscalEnd : GoodIn wsX7_eventDay wsX1_fiscalEnd := goodIn_r _ [12, 13, 14, 11, 15, 16, 17, 18, 19] (by decide +kernel) (by decide +kernel)
set_option maxRecDepth 20000 in
theorem gX7_eventDay_X1_fiscalEnd : GoodIn wsX7_eventDay (va_wsS RX7 359 yX1_fiscalEnd wsX1_fiscalEnd) := goodIn_app (goodIn_of _ (by decide +kernel)) ggX7_eventDay_X1_fiscalEnd
theorem dX7_eventDay_0 : decode cX7_eventDay 0 = .ok (.aload_n 0, 1) := by decide +kernel
theorem dX7_eventDay_1 : decode cX7_eventDay 1 = .ok (.getfield 15, 3) := by decide +kernel
theorem dX7_eventDay_4 : decode cX7_eventDay 4 = .ok (.aload_n 1, 1) := by decide +kernel
theorem dX7_eventDay_5 : decode cX7_eventDay 5 = .ok (.getfield 177, 3) := by decide +kernel
theorem dX7_eventDay_8 : decode cX7_eventDay 8 = .ok (.getfield 353, 3) := by decide +kernel
theorem dX7_eventDay_11 : decode cX7_eventDay 11 = .ok (.aaload, 1) := by decide +kernel
theorem dX7_eventDay_12 : decode cX7_eventDay 12 = .ok (.getfield 356, 3) := by decide +kernel
theorem dX7_eventDay_15 : decode cX7_eventDay 15 = .ok (.tableswitch 53 1 3 #[25, 33, 41], 25) := by decide +kernel
theorem dX7_eventDay_40 : decode cX7_eventDay 40 = .ok (.aload_n 1, 1) := by decide +kernel
theorem dX7_eventDay_41 : decode cX7_eventDay 41 = .ok (.getfield 177, 3) := by decide +kernel
theorem dX7_eventDay_44 : decode cX7_eventDay 44 = .ok (.getfield 125, 3) := by decide +kernel
theorem dX7_eventDay_47 : decode cX7_eventDay 47 = .ok (.ireturn, 1) := by decide +kernel
theorem dX7_eventDay_48 : decode cX7_eventDay 48 = .ok (.aload_n 1, 1) := by decide +kernel
theorem dX7_eventDay_49 : decode cX7_eventDay 49 = .ok (.getfield 177, 3) := by decide +kernel
theorem dX7_eventDay_52 : decode cX7_eventDay 52 = .ok (.getfield 133, 3) := by decide +kernel
theorem dX7_eventDay_55 : decode cX7_eventDay 55 = .ok (.ireturn, 1) := by decide +kernel
theorem dX7_eventDay_56 : decode cX7_eventDay 56 = .ok (.aload_n 1, 1) := by decide +kernel
theorem dX7_eventDay_57 : decode cX7_eventDay 57 = .ok (.getfield 184, 3) := by decide +kernel
theorem dX7_eventDay_60 : decode cX7_eventDay 60 = .ok (.aload_n 0, 1) := by decide +kernel
theorem dX7_eventDay_61 : decode cX7_eventDay 61 = .ok (.getfield 50, 3) := by decide +kernel
theorem dX7_eventDay_64 : decode cX7_eventDay 64 = .ok (.invokestatic 359, 3) := by decide +kernel
theorem dX7_eventDay_67 : decode cX7_eventDay 67 = .ok (.ireturn, 1) := by decide +kernel
theorem dX7_eventDay_68 : decode cX7_eventDay 68 = .ok (.aload_n 1, 1) := by decide +kernel
theorem dX7_eventDay_69 : decode cX7_eventDay 69 = .ok (.getfield 184, 3) := by decide +kernel
theorem dX7_eventDay_72 : decode cX7_eventDay 72 = .ok (.ireturn, 1) := by decide +kernel
set_option maxRecDepth 20000 in
theorem ggX7_dueDay_X7_eventDay : GoodIn wsX7_dueDay wsX7_eventDay := goodIn_r _ [8, 1, 2, 3, 9, 10, 11, 12, 13, 14, 15, 16, 17, 18, 19, 20, 21, 22, 23, 24, 41, 42, 43, 44, 45, 46, 47, 48, 49, 50, 51, 52, 53, 54, 55, 56, 57, 58, 59, 60, 61, 62, 63, 64, 65, 66, 67, 68] (by decide +kernel) (by decide +kernel)
set_option maxRecDepth 20000 in
theorem gX7_dueDay_X7_eventDay : GoodIn wsX7_dueDay (wsV RX7 362 RX7 yX7_eventDay wsX7_eventDay) := goodIn_app (goodIn_of _ (by decide +kernel)) ggX7_dueDay_X7_eventDay
set_option maxRecDepth 20000 in
theorem ggX7_dueDay_X6_termFor : GoodIn wsX7_dueDay wsX6_termFor := goodIn_r _ [29, 30, 31, 32, 33, 64, 65, 66, 67, 68] (by decide +kernel) (by decide +kernel)
set_option maxRecDepth 20000 in
theorem gX7_dueDay_X6_termFor : GoodIn wsX7_dueDay (wsV RX7 365 RX6 yX6_termFor wsX6_termFor) := goodIn_app (goodIn_of _ (by decide +kernel)) ggX7_dueDay_X6_termFor
set_option maxRecDepth 20000 in
theorem ggX7_dueDay_X1_plus : GoodIn wsX7_dueDay wsX1_plus := goodIn_r _ [36, 37, 38, 39, 40, 18, 19, 16, 20, 21, 22, 23, 24] (by decide +kernel) (by decide +kernel)
set_option maxRecDepth 20000 in
theorem gX7_dueDay_X1_plus : GoodIn wsX7_dueDay (va_wsS RX7 315 yX1_plus wsX1_plus) := goodIn_app (goodIn_of _ (by decide +kernel)) ggX7_dueDay_X1_plus
theorem dX7_dueDay_0 : decode cX7_dueDay 0 = .ok (.aload_n 0, 1) := by decide +kernel
theorem dX7_dueDay_1 : decode cX7_dueDay 1 = .ok (.aload_n 1, 1) := by decide +kernel
theorem dX7_dueDay_2 : decode cX7_dueDay 2 = .ok (.invokevirtual 362, 3) := by decide +kernel
theorem dX7_dueDay_5 : decode cX7_dueDay 5 = .ok (.istore_n 2, 1) := by decide +kernel
theorem dX7_dueDay_6 : decode cX7_dueDay 6 = .ok (.iload_n 2, 1) := by decide +kernel
theorem dX7_dueDay_7 : decode cX7_dueDay 7 = .ok (.iconst (-1), 1) := by decide +kernel
theorem dX7_dueDay_8 : decode cX7_dueDay 8 = .ok (.if_icmp .ne 5, 3) := by decide +kernel
theorem dX7_dueDay_11 : decode cX7_dueDay 11 = .ok (.iconst (-1), 1) := by decide +kernel
theorem dX7_dueDay_12 : decode cX7_dueDay 12 = .ok (.ireturn, 1) := by decide +kernel
theorem dX7_dueDay_13 : decode cX7_dueDay 13 = .ok (.iload_n 2, 1) := by decide +kernel
theorem dX7_dueDay_14 : decode cX7_dueDay 14 = .ok (.aload_n 0, 1) := by decide +kernel
theorem dX7_dueDay_15 : decode cX7_dueDay 15 = .ok (.getfield 15, 3) := by decide +kernel
theorem dX7_dueDay_18 : decode cX7_dueDay 18 = .ok (.aload_n 1, 1) := by decide +kernel
theorem dX7_dueDay_19 : decode cX7_dueDay 19 = .ok (.getfield 177, 3) := by decide +kernel
theorem dX7_dueDay_22 : decode cX7_dueDay 22 = .ok (.getfield 353, 3) := by decide +kernel
theorem dX7_dueDay_25 : decode cX7_dueDay 25 = .ok (.aaload, 1) := by decide +kernel
theorem dX7_dueDay_26 : decode cX7_dueDay 26 = .ok (.iload_n 2, 1) := by decide +kernel
theorem dX7_dueDay_27 : decode cX7_dueDay 27 = .ok (.invokevirtual 365, 3) := by decide +kernel
theorem dX7_dueDay_30 : decode cX7_dueDay 30 = .ok (.invokestatic 315, 3) := by decide +kernel
theorem dX7_dueDay_33 : decode cX7_dueDay 33 = .ok (.ireturn, 1) := by decide +kernel
set_option maxRecDepth 20000 in
theorem ggX7_ripeOn_X7_holdsOver : GoodIn wsX7_ripeOn wsX7_holdsOver := goodIn_r _ [8, 9, 10, 11, 12, 13, 14, 15, 16, 17, 18, 19, 20, 21, 22, 23, 24, 25, 26, 27, 28, 29, 30, 31, 32, 33, 34, 35, 36, 80, 81, 82, 83, 84, 85, 86, 87, 88, 89, 90, 99, 100, 101, 102, 103, 104, 91, 92, 93, 94, 95, 96, 97, 98, 105, 106, 107, 108] (by decide +kernel) (by decide +kernel)
set_option maxRecDepth 20000 in
theorem gX7_ripeOn_X7_holdsOver : GoodIn wsX7_ripeOn (wsV RX7 170 RX7 yX7_holdsOver wsX7_holdsOver) := goodIn_app (goodIn_of _ (by decide +kernel)) ggX7_ripeOn_X7_holdsOver
set_option maxRecDepth 20000 in
theorem ggX7_ripeOn_X7_dueDay : GoodIn wsX7_ripeOn wsX7_dueDay := goodIn_r _ [40, 41, 42, 43, 44, 45, 46, 7, 47, 48, 49, 50, 51, 52, 53, 54, 55, 56, 57, 58, 59, 60, 61, 62, 63, 64, 65, 66, 67, 68, 69, 70, 71, 72, 73, 74, 75, 76, 77, 78, 79, 80, 81, 82, 83, 84, 85, 86, 87, 88, 89, 90, 91, 92, 93, 94, 95, 96, 97, 98, 105, 106, 107, 108, 109, 110, 111, 112, 113] (by decide +kernel) (by decide +kernel)
set_option maxRecDepth 20000 in
theorem gX7_ripeOn_X7_dueDay : GoodIn wsX7_ripeOn (wsV RX7 174 RX7 yX7_dueDay wsX7_dueDay) := goodIn_app (goodIn_of _ (by decide +kernel)) ggX7_ripeOn_X7_dueDay
theorem dX7_ripeOn_0 : decode cX7_ripeOn 0 = .ok (.lconst 0, 1) := by decide +kernel
theorem dX7_ripeOn_1 : decode cX7_ripeOn 1 = .ok (.lstore_n 2, 1) := by decide +kernel
theorem dX7_ripeOn_2 : decode cX7_ripeOn 2 = .ok (.iconst 0, 1) := by decide +kernel
theorem dX7_ripeOn_3 : decode cX7_ripeOn 3 = .ok (.istore 4, 2) := by decide +kernel
theorem dX7_ripeOn_5 : decode cX7_ripeOn 5 = .ok (.iload 4, 2) := by decide +kernel
theorem dX7_ripeOn_7 : decode cX7_ripeOn 7 = .ok (.aload_n 0, 1) := by decide +kernel
theorem dX7_ripeOn_8 : decode cX7_ripeOn 8 = .ok (.getfield 104, 3) := by decide +kernel
theorem dX7_ripeOn_11 : decode cX7_ripeOn 11 = .ok (.if_icmp .ge 62, 3) := by decide +kernel
theorem dX7_ripeOn_14 : decode cX7_ripeOn 14 = .ok (.aload_n 0, 1) := by decide +kernel
theorem dX7_ripeOn_15 : decode cX7_ripeOn 15 = .ok (.getfield 33, 3) := by decide +kernel
theorem dX7_ripeOn_18 : decode cX7_ripeOn 18 = .ok (.iload 4, 2) := by decide +kernel
theorem dX7_ripeOn_20 : decode cX7_ripeOn 20 = .ok (.aaload, 1) := by decide +kernel
theorem dX7_ripeOn_21 : decode cX7_ripeOn 21 = .ok (.astore 5, 2) := by decide +kernel
theorem dX7_ripeOn_23 : decode cX7_ripeOn 23 = .ok (.aload 5, 2) := by decide +kernel
theorem dX7_ripeOn_25 : decode cX7_ripeOn 25 = .ok (.getfield 188, 3) := by decide +kernel
theorem dX7_ripeOn_28 : decode cX7_ripeOn 28 = .ok (.ifCond .ne 39, 3) := by decide +kernel
theorem dX7_ripeOn_31 : decode cX7_ripeOn 31 = .ok (.aload_n 0, 1) := by decide +kernel
theorem dX7_ripeOn_32 : decode cX7_ripeOn 32 = .ok (.aload 5, 2) := by decide +kernel
theorem dX7_ripeOn_34 : decode cX7_ripeOn 34 = .ok (.invokevirtual 170, 3) := by decide +kernel
theorem dX7_ripeOn_37 : decode cX7_ripeOn 37 = .ok (.ifCond .ne 30, 3) := by decide +kernel
theorem dX7_ripeOn_40 : decode cX7_ripeOn 40 = .ok (.aload_n 0, 1) := by decide +kernel
theorem dX7_ripeOn_41 : decode cX7_ripeOn 41 = .ok (.aload 5, 2) := by decide +kernel
theorem dX7_ripeOn_43 : decode cX7_ripeOn 43 = .ok (.invokevirtual 174, 3) := by decide +kernel
theorem dX7_ripeOn_46 : decode cX7_ripeOn 46 = .ok (.istore 6, 2) := by decide +kernel
theorem dX7_ripeOn_48 : decode cX7_ripeOn 48 = .ok (.iload 6, 2) := by decide +kernel
theorem dX7_ripeOn_50 : decode cX7_ripeOn 50 = .ok (.iconst (-1), 1) := by decide +kernel
theorem dX7_ripeOn_51 : decode cX7_ripeOn 51 = .ok (.if_icmp .eq 16, 3) := by decide +kernel
theorem dX7_ripeOn_54 : decode cX7_ripeOn 54 = .ok (.iload 6, 2) := by decide +kernel
theorem dX7_ripeOn_56 : decode cX7_ripeOn 56 = .ok (.iload_n 1, 1) := by decide +kernel
theorem dX7_ripeOn_57 : decode cX7_ripeOn 57 = .ok (.if_icmp .gt 10, 3) := by decide +kernel
theorem dX7_ripeOn_60 : decode cX7_ripeOn 60 = .ok (.lload_n 2, 1) := by decide +kernel
theorem dX7_ripeOn_61 : decode cX7_ripeOn 61 = .ok (.lconst 1, 1) := by decide +kernel
theorem dX7_ripeOn_62 : decode cX7_ripeOn 62 = .ok (.iload 4, 2) := by decide +kernel
theorem dX7_ripeOn_64 : decode cX7_ripeOn 64 = .ok (.lshl, 1) := by decide +kernel
theorem dX7_ripeOn_65 : decode cX7_ripeOn 65 = .ok (.lor, 1) := by decide +kernel
theorem dX7_ripeOn_66 : decode cX7_ripeOn 66 = .ok (.lstore_n 2, 1) := by decide +kernel
theorem dX7_ripeOn_67 : decode cX7_ripeOn 67 = .ok (.iinc 4 1, 3) := by decide +kernel
theorem dX7_ripeOn_70 : decode cX7_ripeOn 70 = .ok (.goto (-65), 3) := by decide +kernel
theorem dX7_ripeOn_73 : decode cX7_ripeOn 73 = .ok (.lload_n 2, 1) := by decide +kernel
theorem dX7_ripeOn_74 : decode cX7_ripeOn 74 = .ok (.lreturn, 1) := by decide +kernel
set_option maxRecDepth 20000 in
theorem ggX7_destroyAll_X0_write : GoodIn wsX7_destroyAll wsX0_write := goodIn_r _ [10, 11, 12, 13, 14, 15, 9, 16, 17, 18, 19, 20, 21, 22, 23, 24, 25, 26, 27, 28, 29, 49, 50, 51] (by decide +kernel) (by decide +kernel)
set_option maxRecDepth 20000 in
theorem gX7_destroyAll_X0_write : GoodIn wsX7_destroyAll (wsV RX7 98 RX0 yX0_write wsX0_write) := goodIn_app (goodIn_of _ (by decide +kernel)) ggX7_destroyAll_X0_write
theorem dX7_destroyAll_0 : decode cX7_destroyAll 0 = .ok (.iconst 0, 1) := by decide +kernel
theorem dX7_destroyAll_1 : decode cX7_destroyAll 1 = .ok (.istore 5, 2) := by decide +kernel
theorem dX7_destroyAll_3 : decode cX7_destroyAll 3 = .ok (.iload 5, 2) := by decide +kernel
theorem dX7_destroyAll_5 : decode cX7_destroyAll 5 = .ok (.aload_n 0, 1) := by decide +kernel
theorem dX7_destroyAll_6 : decode cX7_destroyAll 6 = .ok (.getfield 104, 3) := by decide +kernel
theorem dX7_destroyAll_9 : decode cX7_destroyAll 9 = .ok (.if_icmp .ge 55, 3) := by decide +kernel
theorem dX7_destroyAll_12 : decode cX7_destroyAll 12 = .ok (.lload_n 1, 1) := by decide +kernel
theorem dX7_destroyAll_13 : decode cX7_destroyAll 13 = .ok (.iload 5, 2) := by decide +kernel
theorem dX7_destroyAll_15 : decode cX7_destroyAll 15 = .ok (.lushr, 1) := by decide +kernel
theorem dX7_destroyAll_16 : decode cX7_destroyAll 16 = .ok (.lconst 1, 1) := by decide +kernel
theorem dX7_destroyAll_17 : decode cX7_destroyAll 17 = .ok (.land, 1) := by decide +kernel
theorem dX7_destroyAll_18 : decode cX7_destroyAll 18 = .ok (.lconst 0, 1) := by decide +kernel
theorem dX7_destroyAll_19 : decode cX7_destroyAll 19 = .ok (.lcmp, 1) := by decide +kernel
theorem dX7_destroyAll_20 : decode cX7_destroyAll 20 = .ok (.ifCond .eq 38, 3) := by decide +kernel
theorem dX7_destroyAll_23 : decode cX7_destroyAll 23 = .ok (.aload_n 0, 1) := by decide +kernel
theorem dX7_destroyAll_24 : decode cX7_destroyAll 24 = .ok (.getfield 33, 3) := by decide +kernel
theorem dX7_destroyAll_27 : decode cX7_destroyAll 27 = .ok (.iload 5, 2) := by decide +kernel
theorem dX7_destroyAll_29 : decode cX7_destroyAll 29 = .ok (.aaload, 1) := by decide +kernel
theorem dX7_destroyAll_30 : decode cX7_destroyAll 30 = .ok (.iconst 1, 1) := by decide +kernel
theorem dX7_destroyAll_31 : decode cX7_destroyAll 31 = .ok (.putfield 188, 3) := by decide +kernel
theorem dX7_destroyAll_34 : decode cX7_destroyAll 34 = .ok (.aload_n 0, 1) := by decide +kernel
theorem dX7_destroyAll_35 : decode cX7_destroyAll 35 = .ok (.getfield 46, 3) := by decide +kernel
theorem dX7_destroyAll_38 : decode cX7_destroyAll 38 = .ok (.bipush 11, 2) := by decide +kernel
theorem dX7_destroyAll_40 : decode cX7_destroyAll 40 = .ok (.iload 5, 2) := by decide +kernel
theorem dX7_destroyAll_42 : decode cX7_destroyAll 42 = .ok (.iload_n 3, 1) := by decide +kernel
theorem dX7_destroyAll_43 : decode cX7_destroyAll 43 = .ok (.iload 4, 2) := by decide +kernel
theorem dX7_destroyAll_45 : decode cX7_destroyAll 45 = .ok (.aload_n 0, 1) := by decide +kernel
theorem dX7_destroyAll_46 : decode cX7_destroyAll 46 = .ok (.getfield 33, 3) := by decide +kernel
theorem dX7_destroyAll_49 : decode cX7_destroyAll 49 = .ok (.iload 5, 2) := by decide +kernel
theorem dX7_destroyAll_51 : decode cX7_destroyAll 51 = .ok (.aaload, 1) := by decide +kernel
theorem dX7_destroyAll_52 : decode cX7_destroyAll 52 = .ok (.getfield 199, 3) := by decide +kernel
theorem dX7_destroyAll_55 : decode cX7_destroyAll 55 = .ok (.invokevirtual 98, 3) := by decide +kernel
theorem dX7_destroyAll_58 : decode cX7_destroyAll 58 = .ok (.iinc 5 1, 3) := by decide +kernel
theorem dX7_destroyAll_61 : decode cX7_destroyAll 61 = .ok (.goto (-58), 3) := by decide +kernel
theorem dX7_destroyAll_64 : decode cX7_destroyAll 64 = .ok (.return_, 1) := by decide +kernel
theorem dX7_bytesKept_0 : decode cX7_bytesKept 0 = .ok (.iconst 0, 1) := by decide +kernel
theorem dX7_bytesKept_1 : decode cX7_bytesKept 1 = .ok (.istore_n 1, 1) := by decide +kernel
theorem dX7_bytesKept_2 : decode cX7_bytesKept 2 = .ok (.iconst 0, 1) := by decide +kernel
theorem dX7_bytesKept_3 : decode cX7_bytesKept 3 = .ok (.istore_n 2, 1) := by decide +kernel
theorem dX7_bytesKept_4 : decode cX7_bytesKept 4 = .ok (.iload_n 2, 1) := by decide +kernel
theorem dX7_bytesKept_5 : decode cX7_bytesKept 5 = .ok (.aload_n 0, 1) := by decide +kernel
theorem dX7_bytesKept_6 : decode cX7_bytesKept 6 = .ok (.getfield 104, 3) := by decide +kernel
theorem dX7_bytesKept_9 : decode cX7_bytesKept 9 = .ok (.if_icmp .ge 33, 3) := by decide +kernel
theorem dX7_bytesKept_12 : decode cX7_bytesKept 12 = .ok (.aload_n 0, 1) := by decide +kernel
theorem dX7_bytesKept_13 : decode cX7_bytesKept 13 = .ok (.getfield 33, 3) := by decide +kernel
theorem dX7_bytesKept_16 : decode cX7_bytesKept 16 = .ok (.iload_n 2, 1) := by decide +kernel
theorem dX7_bytesKept_17 : decode cX7_bytesKept 17 = .ok (.aaload, 1) := by decide +kernel
theorem dX7_bytesKept_18 : decode cX7_bytesKept 18 = .ok (.getfield 188, 3) := by decide +kernel
theorem dX7_bytesKept_21 : decode cX7_bytesKept 21 = .ok (.ifCond .ne 15, 3) := by decide +kernel
theorem dX7_bytesKept_24 : decode cX7_bytesKept 24 = .ok (.iload_n 1, 1) := by decide +kernel
theorem dX7_bytesKept_25 : decode cX7_bytesKept 25 = .ok (.aload_n 0, 1) := by decide +kernel
theorem dX7_bytesKept_26 : decode cX7_bytesKept 26 = .ok (.getfield 33, 3) := by decide +kernel
theorem dX7_bytesKept_29 : decode cX7_bytesKept 29 = .ok (.iload_n 2, 1) := by decide +kernel
theorem dX7_bytesKept_30 : decode cX7_bytesKept 30 = .ok (.aaload, 1) := by decide +kernel
theorem dX7_bytesKept_31 : decode cX7_bytesKept 31 = .ok (.getfield 187, 3) := by decide +kernel
theorem dX7_bytesKept_34 : decode cX7_bytesKept 34 = .ok (.iadd, 1) := by decide +kernel
theorem dX7_bytesKept_35 : decode cX7_bytesKept 35 = .ok (.istore_n 1, 1) := by decide +kernel
theorem dX7_bytesKept_36 : decode cX7_bytesKept 36 = .ok (.iinc 2 1, 3) := by decide +kernel
theorem dX7_bytesKept_39 : decode cX7_bytesKept 39 = .ok (.goto (-35), 3) := by decide +kernel
theorem dX7_bytesKept_42 : decode cX7_bytesKept 42 = .ok (.iload_n 1, 1) := by decide +kernel
theorem dX7_bytesKept_43 : decode cX7_bytesKept 43 = .ok (.ireturn, 1) := by decide +kernel
theorem dX7_digestOf_0 : decode cX7_digestOf 0 = .ok (.iload_n 1, 1) := by decide +kernel
theorem dX7_digestOf_1 : decode cX7_digestOf 1 = .ok (.ifCond .lt 23, 3) := by decide +kernel
theorem dX7_digestOf_4 : decode cX7_digestOf 4 = .ok (.iload_n 1, 1) := by decide +kernel
theorem dX7_digestOf_5 : decode cX7_digestOf 5 = .ok (.aload_n 0, 1) := by decide +kernel
theorem dX7_digestOf_6 : decode cX7_digestOf 6 = .ok (.getfield 104, 3) := by decide +kernel
theorem dX7_digestOf_9 : decode cX7_digestOf 9 = .ok (.if_icmp .ge 15, 3) := by decide +kernel
theorem dX7_digestOf_12 : decode cX7_digestOf 12 = .ok (.aload_n 0, 1) := by decide +kernel
theorem dX7_digestOf_13 : decode cX7_digestOf 13 = .ok (.getfield 33, 3) := by decide +kernel
theorem dX7_digestOf_16 : decode cX7_digestOf 16 = .ok (.iload_n 1, 1) := by decide +kernel
theorem dX7_digestOf_17 : decode cX7_digestOf 17 = .ok (.aaload, 1) := by decide +kernel
theorem dX7_digestOf_18 : decode cX7_digestOf 18 = .ok (.getfield 199, 3) := by decide +kernel
theorem dX7_digestOf_21 : decode cX7_digestOf 21 = .ok (.goto 4, 3) := by decide +kernel
theorem dX7_digestOf_24 : decode cX7_digestOf 24 = .ok (.lconst 0, 1) := by decide +kernel
theorem dX7_digestOf_25 : decode cX7_digestOf 25 = .ok (.lreturn, 1) := by decide +kernel
theorem dX8_init_0 : decode cX8_init 0 = .ok (.aload_n 0, 1) := by decide +kernel
theorem dX8_init_1 : decode cX8_init 1 = .ok (.invokespecial 1, 3) := by decide +kernel
theorem dX8_init_4 : decode cX8_init 4 = .ok (.aload_n 0, 1) := by decide +kernel
theorem dX8_init_5 : decode cX8_init 5 = .ok (.bipush 8, 2) := by decide +kernel
theorem dX8_init_7 : decode cX8_init 7 = .ok (.newarray .int, 2) := by decide +kernel
theorem dX8_init_9 : decode cX8_init 9 = .ok (.putfield 7, 3) := by decide +kernel
theorem dX8_init_12 : decode cX8_init 12 = .ok (.aload_n 0, 1) := by decide +kernel
theorem dX8_init_13 : decode cX8_init 13 = .ok (.iconst 1, 1) := by decide +kernel
theorem dX8_init_14 : decode cX8_init 14 = .ok (.putfield 13, 3) := by decide +kernel
theorem dX8_init_17 : decode cX8_init 17 = .ok (.aload_n 0, 1) := by decide +kernel
theorem dX8_init_18 : decode cX8_init 18 = .ok (.bipush 8, 2) := by decide +kernel
theorem dX8_init_20 : decode cX8_init 20 = .ok (.newarray .int, 2) := by decide +kernel
theorem dX8_init_22 : decode cX8_init 22 = .ok (.putfield 17, 3) := by decide +kernel
theorem dX8_init_25 : decode cX8_init 25 = .ok (.aload_n 0, 1) := by decide +kernel
theorem dX8_init_26 : decode cX8_init 26 = .ok (.bipush 8, 2) := by decide +kernel
theorem dX8_init_28 : decode cX8_init 28 = .ok (.newarray .int, 2) := by decide +kernel
theorem dX8_init_30 : decode cX8_init 30 = .ok (.putfield 20, 3) := by decide +kernel
theorem dX8_init_33 : decode cX8_init 33 = .ok (.aload_n 0, 1) := by decide +kernel
theorem dX8_init_34 : decode cX8_init 34 = .ok (.bipush 48, 2) := by decide +kernel
theorem dX8_init_36 : decode cX8_init 36 = .ok (.newarray .int, 2) := by decide +kernel
theorem dX8_init_38 : decode cX8_init 38 = .ok (.putfield 23, 3) := by decide +kernel
theorem dX8_init_41 : decode cX8_init 41 = .ok (.aload_n 0, 1) := by decide +kernel
theorem dX8_init_42 : decode cX8_init 42 = .ok (.bipush 48, 2) := by decide +kernel
theorem dX8_init_44 : decode cX8_init 44 = .ok (.newarray .int, 2) := by decide +kernel
theorem dX8_init_46 : decode cX8_init 46 = .ok (.putfield 26, 3) := by decide +kernel
theorem dX8_init_49 : decode cX8_init 49 = .ok (.aload_n 0, 1) := by decide +kernel
theorem dX8_init_50 : decode cX8_init 50 = .ok (.bipush 48, 2) := by decide +kernel
theorem dX8_init_52 : decode cX8_init 52 = .ok (.newarray .boolean, 2) := by decide +kernel
theorem dX8_init_54 : decode cX8_init 54 = .ok (.putfield 29, 3) := by decide +kernel
theorem dX8_init_57 : decode cX8_init 57 = .ok (.aload_n 0, 1) := by decide +kernel
theorem dX8_init_58 : decode cX8_init 58 = .ok (.bipush 16, 2) := by decide +kernel
theorem dX8_init_60 : decode cX8_init 60 = .ok (.newarray .int, 2) := by decide +kernel
theorem dX8_init_62 : decode cX8_init 62 = .ok (.dup, 1) := by decide +kernel
theorem dX8_init_63 : decode cX8_init 63 = .ok (.iconst 0, 1) := by decide +kernel
theorem dX8_init_64 : decode cX8_init 64 = .ok (.iconst (-1), 1) := by decide +kernel
theorem dX8_init_65 : decode cX8_init 65 = .ok (.iastore, 1) := by decide +kernel
theorem dX8_init_66 : decode cX8_init 66 = .ok (.dup, 1) := by decide +kernel
theorem dX8_init_67 : decode cX8_init 67 = .ok (.iconst 1, 1) := by decide +kernel
theorem dX8_init_68 : decode cX8_init 68 = .ok (.iconst (-1), 1) := by decide +kernel
theorem dX8_init_69 : decode cX8_init 69 = .ok (.iastore, 1) := by decide +kernel
theorem dX8_init_70 : decode cX8_init 70 = .ok (.dup, 1) := by decide +kernel
theorem dX8_init_71 : decode cX8_init 71 = .ok (.iconst 2, 1) := by decide +kernel
theorem dX8_init_72 : decode cX8_init 72 = .ok (.iconst (-1), 1) := by decide +kernel
theorem dX8_init_73 : decode cX8_init 73 = .ok (.iastore, 1) := by decide +kernel
theorem dX8_init_74 : decode cX8_init 74 = .ok (.dup, 1) := by decide +kernel
theorem dX8_init_75 : decode cX8_init 75 = .ok (.iconst 3, 1) := by decide +kernel
theorem dX8_init_76 : decode cX8_init 76 = .ok (.iconst (-1), 1) := by decide +kernel
theorem dX8_init_77 : decode cX8_init 77 = .ok (.iastore, 1) := by decide +kernel
theorem dX8_init_78 : decode cX8_init 78 = .ok (.dup, 1) := by decide +kernel
theorem dX8_init_79 : decode cX8_init 79 = .ok (.iconst 4, 1) := by decide +kernel
theorem dX8_init_80 : decode cX8_init 80 = .ok (.iconst (-1), 1) := by decide +kernel
theorem dX8_init_81 : decode cX8_init 81 = .ok (.iastore, 1) := by decide +kernel
theorem dX8_init_82 : decode cX8_init 82 = .ok (.dup, 1) := by decide +kernel
theorem dX8_init_83 : decode cX8_init 83 = .ok (.iconst 5, 1) := by decide +kernel
theorem dX8_init_84 : decode cX8_init 84 = .ok (.iconst (-1), 1) := by decide +kernel
theorem dX8_init_85 : decode cX8_init 85 = .ok (.iastore, 1) := by decide +kernel
theorem dX8_init_86 : decode cX8_init 86 = .ok (.dup, 1) := by decide +kernel
theorem dX8_init_87 : decode cX8_init 87 = .ok (.bipush 6, 2) := by decide +kernel
theorem dX8_init_89 : decode cX8_init 89 = .ok (.iconst (-1), 1) := by decide +kernel
theorem dX8_init_90 : decode cX8_init 90 = .ok (.iastore, 1) := by decide +kernel
theorem dX8_init_91 : decode cX8_init 91 = .ok (.dup, 1) := by decide +kernel
theorem dX8_init_92 : decode cX8_init 92 = .ok (.bipush 7, 2) := by decide +kernel
theorem dX8_init_94 : decode cX8_init 94 = .ok (.iconst (-1), 1) := by decide +kernel
theorem dX8_init_95 : decode cX8_init 95 = .ok (.iastore, 1) := by decide +kernel
theorem dX8_init_96 : decode cX8_init 96 = .ok (.dup, 1) := by decide +kernel
theorem dX8_init_97 : decode cX8_init 97 = .ok (.bipush 8, 2) := by decide +kernel
theorem dX8_init_99 : decode cX8_init 99 = .ok (.iconst (-1), 1) := by decide +kernel
theorem dX8_init_100 : decode cX8_init 100 = .ok (.iastore, 1) := by decide +kernel
theorem dX8_init_101 : decode cX8_init 101 = .ok (.dup, 1) := by decide +kernel
theorem dX8_init_102 : decode cX8_init 102 = .ok (.bipush 9, 2) := by decide +kernel
theorem dX8_init_104 : decode cX8_init 104 = .ok (.iconst (-1), 1) := by decide +kernel
theorem dX8_init_105 : decode cX8_init 105 = .ok (.iastore, 1) := by decide +kernel
theorem dX8_init_106 : decode cX8_init 106 = .ok (.dup, 1) := by decide +kernel
theorem dX8_init_107 : decode cX8_init 107 = .ok (.bipush 10, 2) := by decide +kernel
theorem dX8_init_109 : decode cX8_init 109 = .ok (.iconst (-1), 1) := by decide +kernel
theorem dX8_init_110 : decode cX8_init 110 = .ok (.iastore, 1) := by decide +kernel
theorem dX8_init_111 : decode cX8_init 111 = .ok (.dup, 1) := by decide +kernel
theorem dX8_init_112 : decode cX8_init 112 = .ok (.bipush 11, 2) := by decide +kernel
theorem dX8_init_114 : decode cX8_init 114 = .ok (.iconst (-1), 1) := by decide +kernel
theorem dX8_init_115 : decode cX8_init 115 = .ok (.iastore, 1) := by decide +kernel
theorem dX8_init_116 : decode cX8_init 116 = .ok (.dup, 1) := by decide +kernel
theorem dX8_init_117 : decode cX8_init 117 = .ok (.bipush 12, 2) := by decide +kernel
theorem dX8_init_119 : decode cX8_init 119 = .ok (.iconst (-1), 1) := by decide +kernel
theorem dX8_init_120 : decode cX8_init 120 = .ok (.iastore, 1) := by decide +kernel
theorem dX8_init_121 : decode cX8_init 121 = .ok (.dup, 1) := by decide +kernel
theorem dX8_init_122 : decode cX8_init 122 = .ok (.bipush 13, 2) := by decide +kernel
theorem dX8_init_124 : decode cX8_init 124 = .ok (.iconst (-1), 1) := by decide +kernel
theorem dX8_init_125 : decode cX8_init 125 = .ok (.iastore, 1) := by decide +kernel
theorem dX8_init_126 : decode cX8_init 126 = .ok (.dup, 1) := by decide +kernel
theorem dX8_init_127 : decode cX8_init 127 = .ok (.bipush 14, 2) := by decide +kernel
theorem dX8_init_129 : decode cX8_init 129 = .ok (.iconst (-1), 1) := by decide +kernel
theorem dX8_init_130 : decode cX8_init 130 = .ok (.iastore, 1) := by decide +kernel
theorem dX8_init_131 : decode cX8_init 131 = .ok (.dup, 1) := by decide +kernel
theorem dX8_init_132 : decode cX8_init 132 = .ok (.bipush 15, 2) := by decide +kernel
theorem dX8_init_134 : decode cX8_init 134 = .ok (.iconst (-1), 1) := by decide +kernel
theorem dX8_init_135 : decode cX8_init 135 = .ok (.iastore, 1) := by decide +kernel
theorem dX8_init_136 : decode cX8_init 136 = .ok (.putfield 33, 3) := by decide +kernel
theorem dX8_init_139 : decode cX8_init 139 = .ok (.aload_n 0, 1) := by decide +kernel
theorem dX8_init_140 : decode cX8_init 140 = .ok (.bipush 16, 2) := by decide +kernel
theorem dX8_init_142 : decode cX8_init 142 = .ok (.newarray .int, 2) := by decide +kernel
theorem dX8_init_144 : decode cX8_init 144 = .ok (.dup, 1) := by decide +kernel
theorem dX8_init_145 : decode cX8_init 145 = .ok (.iconst 0, 1) := by decide +kernel
theorem dX8_init_146 : decode cX8_init 146 = .ok (.iconst (-1), 1) := by decide +kernel
theorem dX8_init_147 : decode cX8_init 147 = .ok (.iastore, 1) := by decide +kernel
theorem dX8_init_148 : decode cX8_init 148 = .ok (.dup, 1) := by decide +kernel
theorem dX8_init_149 : decode cX8_init 149 = .ok (.iconst 1, 1) := by decide +kernel
theorem dX8_init_150 : decode cX8_init 150 = .ok (.iconst (-1), 1) := by decide +kernel
theorem dX8_init_151 : decode cX8_init 151 = .ok (.iastore, 1) := by decide +kernel
theorem dX8_init_152 : decode cX8_init 152 = .ok (.dup, 1) := by decide +kernel
theorem dX8_init_153 : decode cX8_init 153 = .ok (.iconst 2, 1) := by decide +kernel
theorem dX8_init_154 : decode cX8_init 154 = .ok (.iconst (-1), 1) := by decide +kernel
theorem dX8_init_155 : decode cX8_init 155 = .ok (.iastore, 1) := by decide +kernel
theorem dX8_init_156 : decode cX8_init 156 = .ok (.dup, 1) := by decide +kernel
theorem dX8_init_157 : decode cX8_init 157 = .ok (.iconst 3, 1) := by decide +kernel
theorem dX8_init_158 : decode cX8_init 158 = .ok (.iconst (-1), 1) := by decide +kernel
theorem dX8_init_159 : decode cX8_init 159 = .ok (.iastore, 1) := by decide +kernel
theorem dX8_init_160 : decode cX8_init 160 = .ok (.dup, 1) := by decide +kernel
theorem dX8_init_161 : decode cX8_init 161 = .ok (.iconst 4, 1) := by decide +kernel
theorem dX8_init_162 : decode cX8_init 162 = .ok (.iconst (-1), 1) := by decide +kernel
theorem dX8_init_163 : decode cX8_init 163 = .ok (.iastore, 1) := by decide +kernel
theorem dX8_init_164 : decode cX8_init 164 = .ok (.dup, 1) := by decide +kernel
theorem dX8_init_165 : decode cX8_init 165 = .ok (.iconst 5, 1) := by decide +kernel
theorem dX8_init_166 : decode cX8_init 166 = .ok (.iconst (-1), 1) := by decide +kernel
theorem dX8_init_167 : decode cX8_init 167 = .ok (.iastore, 1) := by decide +kernel
theorem dX8_init_168 : decode cX8_init 168 = .ok (.dup, 1) := by decide +kernel
theorem dX8_init_169 : decode cX8_init 169 = .ok (.bipush 6, 2) := by decide +kernel
theorem dX8_init_171 : decode cX8_init 171 = .ok (.iconst (-1), 1) := by decide +kernel
theorem dX8_init_172 : decode cX8_init 172 = .ok (.iastore, 1) := by decide +kernel
theorem dX8_init_173 : decode cX8_init 173 = .ok (.dup, 1) := by decide +kernel
theorem dX8_init_174 : decode cX8_init 174 = .ok (.bipush 7, 2) := by decide +kernel
theorem dX8_init_176 : decode cX8_init 176 = .ok (.iconst (-1), 1) := by decide +kernel
theorem dX8_init_177 : decode cX8_init 177 = .ok (.iastore, 1) := by decide +kernel
theorem dX8_init_178 : decode cX8_init 178 = .ok (.dup, 1) := by decide +kernel
theorem dX8_init_179 : decode cX8_init 179 = .ok (.bipush 8, 2) := by decide +kernel
theorem dX8_init_181 : decode cX8_init 181 = .ok (.iconst (-1), 1) := by decide +kernel
theorem dX8_init_182 : decode cX8_init 182 = .ok (.iastore, 1) := by decide +kernel
theorem dX8_init_183 : decode cX8_init 183 = .ok (.dup, 1) := by decide +kernel
theorem dX8_init_184 : decode cX8_init 184 = .ok (.bipush 9, 2) := by decide +kernel
theorem dX8_init_186 : decode cX8_init 186 = .ok (.iconst (-1), 1) := by decide +kernel
theorem dX8_init_187 : decode cX8_init 187 = .ok (.iastore, 1) := by decide +kernel
theorem dX8_init_188 : decode cX8_init 188 = .ok (.dup, 1) := by decide +kernel
theorem dX8_init_189 : decode cX8_init 189 = .ok (.bipush 10, 2) := by decide +kernel
theorem dX8_init_191 : decode cX8_init 191 = .ok (.iconst (-1), 1) := by decide +kernel
theorem dX8_init_192 : decode cX8_init 192 = .ok (.iastore, 1) := by decide +kernel
theorem dX8_init_193 : decode cX8_init 193 = .ok (.dup, 1) := by decide +kernel
theorem dX8_init_194 : decode cX8_init 194 = .ok (.bipush 11, 2) := by decide +kernel
theorem dX8_init_196 : decode cX8_init 196 = .ok (.iconst (-1), 1) := by decide +kernel
theorem dX8_init_197 : decode cX8_init 197 = .ok (.iastore, 1) := by decide +kernel
theorem dX8_init_198 : decode cX8_init 198 = .ok (.dup, 1) := by decide +kernel
theorem dX8_init_199 : decode cX8_init 199 = .ok (.bipush 12, 2) := by decide +kernel
theorem dX8_init_201 : decode cX8_init 201 = .ok (.iconst (-1), 1) := by decide +kernel
theorem dX8_init_202 : decode cX8_init 202 = .ok (.iastore, 1) := by decide +kernel
theorem dX8_init_203 : decode cX8_init 203 = .ok (.dup, 1) := by decide +kernel
theorem dX8_init_204 : decode cX8_init 204 = .ok (.bipush 13, 2) := by decide +kernel
theorem dX8_init_206 : decode cX8_init 206 = .ok (.iconst (-1), 1) := by decide +kernel
theorem dX8_init_207 : decode cX8_init 207 = .ok (.iastore, 1) := by decide +kernel
theorem dX8_init_208 : decode cX8_init 208 = .ok (.dup, 1) := by decide +kernel
theorem dX8_init_209 : decode cX8_init 209 = .ok (.bipush 14, 2) := by decide +kernel
theorem dX8_init_211 : decode cX8_init 211 = .ok (.iconst (-1), 1) := by decide +kernel
theorem dX8_init_212 : decode cX8_init 212 = .ok (.iastore, 1) := by decide +kernel
theorem dX8_init_213 : decode cX8_init 213 = .ok (.dup, 1) := by decide +kernel
theorem dX8_init_214 : decode cX8_init 214 = .ok (.bipush 15, 2) := by decide +kernel
theorem dX8_init_216 : decode cX8_init 216 = .ok (.iconst (-1), 1) := by decide +kernel
theorem dX8_init_217 : decode cX8_init 217 = .ok (.iastore, 1) := by decide +kernel
theorem dX8_init_218 : decode cX8_init 218 = .ok (.putfield 36, 3) := by decide +kernel
theorem dX8_init_221 : decode cX8_init 221 = .ok (.aload_n 0, 1) := by decide +kernel
theorem dX8_init_222 : decode cX8_init 222 = .ok (.bipush 16, 2) := by decide +kernel
theorem dX8_init_224 : decode cX8_init 224 = .ok (.newarray .int, 2) := by decide +kernel
theorem dX8_init_226 : decode cX8_init 226 = .ok (.dup, 1) := by decide +kernel
theorem dX8_init_227 : decode cX8_init 227 = .ok (.iconst 0, 1) := by decide +kernel
theorem dX8_init_228 : decode cX8_init 228 = .ok (.iconst (-1), 1) := by decide +kernel
theorem dX8_init_229 : decode cX8_init 229 = .ok (.iastore, 1) := by decide +kernel
theorem dX8_init_230 : decode cX8_init 230 = .ok (.dup, 1) := by decide +kernel
theorem dX8_init_231 : decode cX8_init 231 = .ok (.iconst 1, 1) := by decide +kernel
theorem dX8_init_232 : decode cX8_init 232 = .ok (.iconst (-1), 1) := by decide +kernel
theorem dX8_init_233 : decode cX8_init 233 = .ok (.iastore, 1) := by decide +kernel
theorem dX8_init_234 : decode cX8_init 234 = .ok (.dup, 1) := by decide +kernel
theorem dX8_init_235 : decode cX8_init 235 = .ok (.iconst 2, 1) := by decide +kernel
theorem dX8_init_236 : decode cX8_init 236 = .ok (.iconst (-1), 1) := by decide +kernel
theorem dX8_init_237 : decode cX8_init 237 = .ok (.iastore, 1) := by decide +kernel
theorem dX8_init_238 : decode cX8_init 238 = .ok (.dup, 1) := by decide +kernel
theorem dX8_init_239 : decode cX8_init 239 = .ok (.iconst 3, 1) := by decide +kernel
theorem dX8_init_240 : decode cX8_init 240 = .ok (.iconst (-1), 1) := by decide +kernel
theorem dX8_init_241 : decode cX8_init 241 = .ok (.iastore, 1) := by decide +kernel
theorem dX8_init_242 : decode cX8_init 242 = .ok (.dup, 1) := by decide +kernel
theorem dX8_init_243 : decode cX8_init 243 = .ok (.iconst 4, 1) := by decide +kernel
theorem dX8_init_244 : decode cX8_init 244 = .ok (.iconst (-1), 1) := by decide +kernel
theorem dX8_init_245 : decode cX8_init 245 = .ok (.iastore, 1) := by decide +kernel
theorem dX8_init_246 : decode cX8_init 246 = .ok (.dup, 1) := by decide +kernel
theorem dX8_init_247 : decode cX8_init 247 = .ok (.iconst 5, 1) := by decide +kernel
theorem dX8_init_248 : decode cX8_init 248 = .ok (.iconst (-1), 1) := by decide +kernel
theorem dX8_init_249 : decode cX8_init 249 = .ok (.iastore, 1) := by decide +kernel
theorem dX8_init_250 : decode cX8_init 250 = .ok (.dup, 1) := by decide +kernel
theorem dX8_init_251 : decode cX8_init 251 = .ok (.bipush 6, 2) := by decide +kernel
theorem dX8_init_253 : decode cX8_init 253 = .ok (.iconst (-1), 1) := by decide +kernel
theorem dX8_init_254 : decode cX8_init 254 = .ok (.iastore, 1) := by decide +kernel
theorem dX8_init_255 : decode cX8_init 255 = .ok (.dup, 1) := by decide +kernel
theorem dX8_init_256 : decode cX8_init 256 = .ok (.bipush 7, 2) := by decide +kernel
theorem dX8_init_258 : decode cX8_init 258 = .ok (.iconst (-1), 1) := by decide +kernel
theorem dX8_init_259 : decode cX8_init 259 = .ok (.iastore, 1) := by decide +kernel
theorem dX8_init_260 : decode cX8_init 260 = .ok (.dup, 1) := by decide +kernel
theorem dX8_init_261 : decode cX8_init 261 = .ok (.bipush 8, 2) := by decide +kernel
theorem dX8_init_263 : decode cX8_init 263 = .ok (.iconst (-1), 1) := by decide +kernel
theorem dX8_init_264 : decode cX8_init 264 = .ok (.iastore, 1) := by decide +kernel
theorem dX8_init_265 : decode cX8_init 265 = .ok (.dup, 1) := by decide +kernel
theorem dX8_init_266 : decode cX8_init 266 = .ok (.bipush 9, 2) := by decide +kernel
theorem dX8_init_268 : decode cX8_init 268 = .ok (.iconst (-1), 1) := by decide +kernel
theorem dX8_init_269 : decode cX8_init 269 = .ok (.iastore, 1) := by decide +kernel
theorem dX8_init_270 : decode cX8_init 270 = .ok (.dup, 1) := by decide +kernel
theorem dX8_init_271 : decode cX8_init 271 = .ok (.bipush 10, 2) := by decide +kernel
theorem dX8_init_273 : decode cX8_init 273 = .ok (.iconst (-1), 1) := by decide +kernel
theorem dX8_init_274 : decode cX8_init 274 = .ok (.iastore, 1) := by decide +kernel
theorem dX8_init_275 : decode cX8_init 275 = .ok (.dup, 1) := by decide +kernel
theorem dX8_init_276 : decode cX8_init 276 = .ok (.bipush 11, 2) := by decide +kernel
theorem dX8_init_278 : decode cX8_init 278 = .ok (.iconst (-1), 1) := by decide +kernel
theorem dX8_init_279 : decode cX8_init 279 = .ok (.iastore, 1) := by decide +kernel
theorem dX8_init_280 : decode cX8_init 280 = .ok (.dup, 1) := by decide +kernel
theorem dX8_init_281 : decode cX8_init 281 = .ok (.bipush 12, 2) := by decide +kernel
theorem dX8_init_283 : decode cX8_init 283 = .ok (.iconst (-1), 1) := by decide +kernel
theorem dX8_init_284 : decode cX8_init 284 = .ok (.iastore, 1) := by decide +kernel
theorem dX8_init_285 : decode cX8_init 285 = .ok (.dup, 1) := by decide +kernel
theorem dX8_init_286 : decode cX8_init 286 = .ok (.bipush 13, 2) := by decide +kernel
theorem dX8_init_288 : decode cX8_init 288 = .ok (.iconst (-1), 1) := by decide +kernel
theorem dX8_init_289 : decode cX8_init 289 = .ok (.iastore, 1) := by decide +kernel
theorem dX8_init_290 : decode cX8_init 290 = .ok (.dup, 1) := by decide +kernel
theorem dX8_init_291 : decode cX8_init 291 = .ok (.bipush 14, 2) := by decide +kernel
theorem dX8_init_293 : decode cX8_init 293 = .ok (.iconst (-1), 1) := by decide +kernel
theorem dX8_init_294 : decode cX8_init 294 = .ok (.iastore, 1) := by decide +kernel
theorem dX8_init_295 : decode cX8_init 295 = .ok (.dup, 1) := by decide +kernel
theorem dX8_init_296 : decode cX8_init 296 = .ok (.bipush 15, 2) := by decide +kernel
theorem dX8_init_298 : decode cX8_init 298 = .ok (.iconst (-1), 1) := by decide +kernel
theorem dX8_init_299 : decode cX8_init 299 = .ok (.iastore, 1) := by decide +kernel
theorem dX8_init_300 : decode cX8_init 300 = .ok (.putfield 39, 3) := by decide +kernel
theorem dX8_init_303 : decode cX8_init 303 = .ok (.aload_n 0, 1) := by decide +kernel
theorem dX8_init_304 : decode cX8_init 304 = .ok (.bipush 64, 2) := by decide +kernel
theorem dX8_init_306 : decode cX8_init 306 = .ok (.newarray .int, 2) := by decide +kernel
theorem dX8_init_308 : decode cX8_init 308 = .ok (.putfield 42, 3) := by decide +kernel
theorem dX8_init_311 : decode cX8_init 311 = .ok (.aload_n 0, 1) := by decide +kernel
theorem dX8_init_312 : decode cX8_init 312 = .ok (.bipush 64, 2) := by decide +kernel
theorem dX8_init_314 : decode cX8_init 314 = .ok (.newarray .int, 2) := by decide +kernel
theorem dX8_init_316 : decode cX8_init 316 = .ok (.putfield 45, 3) := by decide +kernel
theorem dX8_init_319 : decode cX8_init 319 = .ok (.aload_n 0, 1) := by decide +kernel
theorem dX8_init_320 : decode cX8_init 320 = .ok (.bipush 64, 2) := by decide +kernel
theorem dX8_init_322 : decode cX8_init 322 = .ok (.newarray .int, 2) := by decide +kernel
theorem dX8_init_324 : decode cX8_init 324 = .ok (.putfield 48, 3) := by decide +kernel
theorem dX8_init_327 : decode cX8_init 327 = .ok (.aload_n 0, 1) := by decide +kernel
theorem dX8_init_328 : decode cX8_init 328 = .ok (.bipush 64, 2) := by decide +kernel
theorem dX8_init_330 : decode cX8_init 330 = .ok (.newarray .long, 2) := by decide +kernel
theorem dX8_init_332 : decode cX8_init 332 = .ok (.putfield 51, 3) := by decide +kernel
theorem dX8_init_335 : decode cX8_init 335 = .ok (.aload_n 0, 1) := by decide +kernel
theorem dX8_init_336 : decode cX8_init 336 = .ok (.sipush 192, 3) := by decide +kernel
theorem dX8_init_339 : decode cX8_init 339 = .ok (.newarray .int, 2) := by decide +kernel
theorem dX8_init_341 : decode cX8_init 341 = .ok (.putfield 55, 3) := by decide +kernel
theorem dX8_init_344 : decode cX8_init 344 = .ok (.aload_n 0, 1) := by decide +kernel
theorem dX8_init_345 : decode cX8_init 345 = .ok (.bipush 64, 2) := by decide +kernel
theorem dX8_init_347 : decode cX8_init 347 = .ok (.newarray .boolean, 2) := by decide +kernel
theorem dX8_init_349 : decode cX8_init 349 = .ok (.putfield 58, 3) := by decide +kernel
theorem dX8_init_352 : decode cX8_init 352 = .ok (.aload_n 0, 1) := by decide +kernel
theorem dX8_init_353 : decode cX8_init 353 = .ok (.bipush 8, 2) := by decide +kernel
theorem dX8_init_355 : decode cX8_init 355 = .ok (.newarray .boolean, 2) := by decide +kernel
theorem dX8_init_357 : decode cX8_init 357 = .ok (.putfield 61, 3) := by decide +kernel
theorem dX8_init_360 : decode cX8_init 360 = .ok (.aload_n 0, 1) := by decide +kernel
theorem dX8_init_361 : decode cX8_init 361 = .ok (.bipush 8, 2) := by decide +kernel
theorem dX8_init_363 : decode cX8_init 363 = .ok (.newarray .int, 2) := by decide +kernel
theorem dX8_init_365 : decode cX8_init 365 = .ok (.putfield 64, 3) := by decide +kernel
theorem dX8_init_368 : decode cX8_init 368 = .ok (.aload_n 0, 1) := by decide +kernel
theorem dX8_init_369 : decode cX8_init 369 = .ok (.bipush 8, 2) := by decide +kernel
theorem dX8_init_371 : decode cX8_init 371 = .ok (.newarray .int, 2) := by decide +kernel
theorem dX8_init_373 : decode cX8_init 373 = .ok (.putfield 67, 3) := by decide +kernel
theorem dX8_init_376 : decode cX8_init 376 = .ok (.aload_n 0, 1) := by decide +kernel
theorem dX8_init_377 : decode cX8_init 377 = .ok (.bipush 8, 2) := by decide +kernel
theorem dX8_init_379 : decode cX8_init 379 = .ok (.newarray .int, 2) := by decide +kernel
theorem dX8_init_381 : decode cX8_init 381 = .ok (.putfield 70, 3) := by decide +kernel
theorem dX8_init_384 : decode cX8_init 384 = .ok (.aload_n 0, 1) := by decide +kernel
theorem dX8_init_385 : decode cX8_init 385 = .ok (.bipush 8, 2) := by decide +kernel
theorem dX8_init_387 : decode cX8_init 387 = .ok (.newarray .int, 2) := by decide +kernel
theorem dX8_init_389 : decode cX8_init 389 = .ok (.putfield 73, 3) := by decide +kernel
theorem dX8_init_392 : decode cX8_init 392 = .ok (.aload_n 0, 1) := by decide +kernel
theorem dX8_init_393 : decode cX8_init 393 = .ok (.bipush 8, 2) := by decide +kernel
theorem dX8_init_395 : decode cX8_init 395 = .ok (.newarray .int, 2) := by decide +kernel
theorem dX8_init_397 : decode cX8_init 397 = .ok (.putfield 76, 3) := by decide +kernel
theorem dX8_init_400 : decode cX8_init 400 = .ok (.aload_n 0, 1) := by decide +kernel
theorem dX8_init_401 : decode cX8_init 401 = .ok (.sipush 1024, 3) := by decide +kernel
theorem dX8_init_404 : decode cX8_init 404 = .ok (.newarray .int, 2) := by decide +kernel
theorem dX8_init_406 : decode cX8_init 406 = .ok (.putfield 79, 3) := by decide +kernel
theorem dX8_init_409 : decode cX8_init 409 = .ok (.aload_n 0, 1) := by decide +kernel
theorem dX8_init_410 : decode cX8_init 410 = .ok (.bipush 16, 2) := by decide +kernel
theorem dX8_init_412 : decode cX8_init 412 = .ok (.newarray .int, 2) := by decide +kernel
theorem dX8_init_414 : decode cX8_init 414 = .ok (.putfield 82, 3) := by decide +kernel
theorem dX8_init_417 : decode cX8_init 417 = .ok (.aload_n 0, 1) := by decide +kernel
theorem dX8_init_418 : decode cX8_init 418 = .ok (.bipush 16, 2) := by decide +kernel
theorem dX8_init_420 : decode cX8_init 420 = .ok (.newarray .int, 2) := by decide +kernel
theorem dX8_init_422 : decode cX8_init 422 = .ok (.putfield 85, 3) := by decide +kernel
theorem dX8_init_425 : decode cX8_init 425 = .ok (.aload_n 0, 1) := by decide +kernel
theorem dX8_init_426 : decode cX8_init 426 = .ok (.bipush 16, 2) := by decide +kernel
theorem dX8_init_428 : decode cX8_init 428 = .ok (.newarray .int, 2) := by decide +kernel
theorem dX8_init_430 : decode cX8_init 430 = .ok (.putfield 88, 3) := by decide +kernel
theorem dX8_init_433 : decode cX8_init 433 = .ok (.aload_n 0, 1) := by decide +kernel
theorem dX8_init_434 : decode cX8_init 434 = .ok (.bipush 16, 2) := by decide +kernel
theorem dX8_init_436 : decode cX8_init 436 = .ok (.newarray .boolean, 2) := by decide +kernel
theorem dX8_init_438 : decode cX8_init 438 = .ok (.putfield 91, 3) := by decide +kernel
theorem dX8_init_441 : decode cX8_init 441 = .ok (.aload_n 0, 1) := by decide +kernel
theorem dX8_init_442 : decode cX8_init 442 = .ok (.sipush 1600, 3) := by decide +kernel
theorem dX8_init_445 : decode cX8_init 445 = .ok (.newarray .int, 2) := by decide +kernel
theorem dX8_init_447 : decode cX8_init 447 = .ok (.putfield 94, 3) := by decide +kernel
theorem dX8_init_450 : decode cX8_init 450 = .ok (.aload_n 0, 1) := by decide +kernel
theorem dX8_init_451 : decode cX8_init 451 = .ok (.sipush 400, 3) := by decide +kernel
theorem dX8_init_454 : decode cX8_init 454 = .ok (.newarray .long, 2) := by decide +kernel
theorem dX8_init_456 : decode cX8_init 456 = .ok (.putfield 97, 3) := by decide +kernel
theorem dX8_init_459 : decode cX8_init 459 = .ok (.return_, 1) := by decide +kernel
theorem dX8_thrown_0 : decode cX8_thrown 0 = .ok (.aload_n 0, 1) := by decide +kernel
theorem dX8_thrown_1 : decode cX8_thrown 1 = .ok (.getfield 100, 3) := by decide +kernel
theorem dX8_thrown_4 : decode cX8_thrown 4 = .ok (.ireturn, 1) := by decide +kernel
theorem dX8_isIn_0 : decode cX8_isIn 0 = .ok (.iload_n 0, 1) := by decide +kernel
theorem dX8_isIn_1 : decode cX8_isIn 1 = .ok (.iload_n 1, 1) := by decide +kernel
theorem dX8_isIn_2 : decode cX8_isIn 2 = .ok (.if_icmp .lt 12, 3) := by decide +kernel
theorem dX8_isIn_5 : decode cX8_isIn 5 = .ok (.iload_n 0, 1) := by decide +kernel
theorem dX8_isIn_6 : decode cX8_isIn 6 = .ok (.iload_n 2, 1) := by decide +kernel
theorem dX8_isIn_7 : decode cX8_isIn 7 = .ok (.if_icmp .gt 7, 3) := by decide +kernel
theorem dX8_isIn_10 : decode cX8_isIn 10 = .ok (.iconst 1, 1) := by decide +kernel
theorem dX8_isIn_11 : decode cX8_isIn 11 = .ok (.goto 4, 3) := by decide +kernel
theorem dX8_isIn_14 : decode cX8_isIn 14 = .ok (.iconst 0, 1) := by decide +kernel
theorem dX8_isIn_15 : decode cX8_isIn 15 = .ok (.ireturn, 1) := by decide +kernel
theorem dX8_inMonth_0 : decode cX8_inMonth 0 = .ok (.iload_n 0, 1) := by decide +kernel
theorem dX8_inMonth_1 : decode cX8_inMonth 1 = .ok (.iconst 4, 1) := by decide +kernel
theorem dX8_inMonth_2 : decode cX8_inMonth 2 = .ok (.irem, 1) := by decide +kernel
theorem dX8_inMonth_3 : decode cX8_inMonth 3 = .ok (.ifCond .ne 22, 3) := by decide +kernel
theorem dX8_inMonth_6 : decode cX8_inMonth 6 = .ok (.iload_n 0, 1) := by decide +kernel
theorem dX8_inMonth_7 : decode cX8_inMonth 7 = .ok (.bipush 100, 2) := by decide +kernel
theorem dX8_inMonth_9 : decode cX8_inMonth 9 = .ok (.irem, 1) := by decide +kernel
theorem dX8_inMonth_10 : decode cX8_inMonth 10 = .ok (.ifCond .ne 11, 3) := by decide +kernel
theorem dX8_inMonth_13 : decode cX8_inMonth 13 = .ok (.iload_n 0, 1) := by decide +kernel
theorem dX8_inMonth_14 : decode cX8_inMonth 14 = .ok (.sipush 400, 3) := by decide +kernel
theorem dX8_inMonth_17 : decode cX8_inMonth 17 = .ok (.irem, 1) := by decide +kernel
theorem dX8_inMonth_18 : decode cX8_inMonth 18 = .ok (.ifCond .ne 7, 3) := by decide +kernel
theorem dX8_inMonth_21 : decode cX8_inMonth 21 = .ok (.iconst 1, 1) := by decide +kernel
theorem dX8_inMonth_22 : decode cX8_inMonth 22 = .ok (.goto 4, 3) := by decide +kernel
theorem dX8_inMonth_25 : decode cX8_inMonth 25 = .ok (.iconst 0, 1) := by decide +kernel
theorem dX8_inMonth_26 : decode cX8_inMonth 26 = .ok (.istore_n 2, 1) := by decide +kernel
theorem dX8_inMonth_27 : decode cX8_inMonth 27 = .ok (.iload_n 1, 1) := by decide +kernel
theorem dX8_inMonth_28 : decode cX8_inMonth 28 = .ok (.iconst 2, 1) := by decide +kernel
theorem dX8_inMonth_29 : decode cX8_inMonth 29 = .ok (.if_icmp .ne 17, 3) := by decide +kernel
theorem dX8_inMonth_32 : decode cX8_inMonth 32 = .ok (.iload_n 2, 1) := by decide +kernel
theorem dX8_inMonth_33 : decode cX8_inMonth 33 = .ok (.ifCond .eq 8, 3) := by decide +kernel
theorem dX8_inMonth_36 : decode cX8_inMonth 36 = .ok (.bipush 29, 2) := by decide +kernel
theorem dX8_inMonth_38 : decode cX8_inMonth 38 = .ok (.goto 38, 3) := by decide +kernel
theorem dX8_inMonth_41 : decode cX8_inMonth 41 = .ok (.bipush 28, 2) := by decide +kernel
theorem dX8_inMonth_43 : decode cX8_inMonth 43 = .ok (.goto 33, 3) := by decide +kernel
theorem dX8_inMonth_46 : decode cX8_inMonth 46 = .ok (.iload_n 1, 1) := by decide +kernel
theorem dX8_inMonth_47 : decode cX8_inMonth 47 = .ok (.iconst 4, 1) := by decide +kernel
theorem dX8_inMonth_48 : decode cX8_inMonth 48 = .ok (.if_icmp .eq 21, 3) := by decide +kernel
theorem dX8_inMonth_51 : decode cX8_inMonth 51 = .ok (.iload_n 1, 1) := by decide +kernel
theorem dX8_inMonth_52 : decode cX8_inMonth 52 = .ok (.bipush 6, 2) := by decide +kernel
theorem dX8_inMonth_54 : decode cX8_inMonth 54 = .ok (.if_icmp .eq 15, 3) := by decide +kernel
theorem dX8_inMonth_57 : decode cX8_inMonth 57 = .ok (.iload_n 1, 1) := by decide +kernel
theorem dX8_inMonth_58 : decode cX8_inMonth 58 = .ok (.bipush 9, 2) := by decide +kernel
theorem dX8_inMonth_60 : decode cX8_inMonth 60 = .ok (.if_icmp .eq 9, 3) := by decide +kernel
theorem dX8_inMonth_63 : decode cX8_inMonth 63 = .ok (.iload_n 1, 1) := by decide +kernel
theorem dX8_inMonth_64 : decode cX8_inMonth 64 = .ok (.bipush 11, 2) := by decide +kernel
theorem dX8_inMonth_66 : decode cX8_inMonth 66 = .ok (.if_icmp .ne 8, 3) := by decide +kernel
theorem dX8_inMonth_69 : decode cX8_inMonth 69 = .ok (.bipush 30, 2) := by decide +kernel
theorem dX8_inMonth_71 : decode cX8_inMonth 71 = .ok (.goto 5, 3) := by decide +kernel
theorem dX8_inMonth_74 : decode cX8_inMonth 74 = .ok (.bipush 31, 2) := by decide +kernel
theorem dX8_inMonth_76 : decode cX8_inMonth 76 = .ok (.ireturn, 1) := by decide +kernel
set_option maxRecDepth 20000 in
theorem ggX8_monthOf_X8_inMonth : GoodIn wsX8_monthOf wsX8_inMonth := goodIn_r _ [4] (by decide +kernel) (by decide +kernel)
set_option maxRecDepth 20000 in
theorem gX8_monthOf_X8_inMonth : GoodIn wsX8_monthOf (va_wsS RX8 103 yX8_inMonth wsX8_inMonth) := goodIn_app (goodIn_of _ (by decide +kernel)) ggX8_monthOf_X8_inMonth
theorem dX8_monthOf_0 : decode cX8_monthOf 0 = .ok (.iload_n 0, 1) := by decide +kernel
theorem dX8_monthOf_1 : decode cX8_monthOf 1 = .ok (.istore_n 1, 1) := by decide +kernel
theorem dX8_monthOf_2 : decode cX8_monthOf 2 = .ok (.iconst 0, 1) := by decide +kernel
theorem dX8_monthOf_3 : decode cX8_monthOf 3 = .ok (.istore_n 2, 1) := by decide +kernel
theorem dX8_monthOf_4 : decode cX8_monthOf 4 = .ok (.iload_n 1, 1) := by decide +kernel
theorem dX8_monthOf_5 : decode cX8_monthOf 5 = .ok (.sipush 1900, 3) := by decide +kernel
theorem dX8_monthOf_8 : decode cX8_monthOf 8 = .ok (.iload_n 2, 1) := by decide +kernel
theorem dX8_monthOf_9 : decode cX8_monthOf 9 = .ok (.bipush 12, 2) := by decide +kernel
theorem dX8_monthOf_11 : decode cX8_monthOf 11 = .ok (.idiv, 1) := by decide +kernel
theorem dX8_monthOf_12 : decode cX8_monthOf 12 = .ok (.iadd, 1) := by decide +kernel
theorem dX8_monthOf_13 : decode cX8_monthOf 13 = .ok (.iload_n 2, 1) := by decide +kernel
theorem dX8_monthOf_14 : decode cX8_monthOf 14 = .ok (.bipush 12, 2) := by decide +kernel
theorem dX8_monthOf_16 : decode cX8_monthOf 16 = .ok (.irem, 1) := by decide +kernel
theorem dX8_monthOf_17 : decode cX8_monthOf 17 = .ok (.iconst 1, 1) := by decide +kernel
theorem dX8_monthOf_18 : decode cX8_monthOf 18 = .ok (.iadd, 1) := by decide +kernel
theorem dX8_monthOf_19 : decode cX8_monthOf 19 = .ok (.invokestatic 103, 3) := by decide +kernel
theorem dX8_monthOf_22 : decode cX8_monthOf 22 = .ok (.if_icmp .lt 29, 3) := by decide +kernel
theorem dX8_monthOf_25 : decode cX8_monthOf 25 = .ok (.iload_n 1, 1) := by decide +kernel
theorem dX8_monthOf_26 : decode cX8_monthOf 26 = .ok (.sipush 1900, 3) := by decide +kernel
theorem dX8_monthOf_29 : decode cX8_monthOf 29 = .ok (.iload_n 2, 1) := by decide +kernel
theorem dX8_monthOf_30 : decode cX8_monthOf 30 = .ok (.bipush 12, 2) := by decide +kernel
theorem dX8_monthOf_32 : decode cX8_monthOf 32 = .ok (.idiv, 1) := by decide +kernel
theorem dX8_monthOf_33 : decode cX8_monthOf 33 = .ok (.iadd, 1) := by decide +kernel
theorem dX8_monthOf_34 : decode cX8_monthOf 34 = .ok (.iload_n 2, 1) := by decide +kernel
theorem dX8_monthOf_35 : decode cX8_monthOf 35 = .ok (.bipush 12, 2) := by decide +kernel
theorem dX8_monthOf_37 : decode cX8_monthOf 37 = .ok (.irem, 1) := by decide +kernel
theorem dX8_monthOf_38 : decode cX8_monthOf 38 = .ok (.iconst 1, 1) := by decide +kernel
theorem dX8_monthOf_39 : decode cX8_monthOf 39 = .ok (.iadd, 1) := by decide +kernel
theorem dX8_monthOf_40 : decode cX8_monthOf 40 = .ok (.invokestatic 103, 3) := by decide +kernel
theorem dX8_monthOf_43 : decode cX8_monthOf 43 = .ok (.isub, 1) := by decide +kernel
theorem dX8_monthOf_44 : decode cX8_monthOf 44 = .ok (.istore_n 1, 1) := by decide +kernel
theorem dX8_monthOf_45 : decode cX8_monthOf 45 = .ok (.iinc 2 1, 3) := by decide +kernel
theorem dX8_monthOf_48 : decode cX8_monthOf 48 = .ok (.goto (-44), 3) := by decide +kernel
theorem dX8_monthOf_51 : decode cX8_monthOf 51 = .ok (.iload_n 2, 1) := by decide +kernel
theorem dX8_monthOf_52 : decode cX8_monthOf 52 = .ok (.ireturn, 1) := by decide +kernel
set_option maxRecDepth 20000 in
theorem ggX8_begin_X8_inMonth : GoodIn wsX8_begin wsX8_inMonth := goodIn_r _ [4] (by decide +kernel) (by decide +kernel)
set_option maxRecDepth 20000 in
theorem gX8_begin_X8_inMonth : GoodIn wsX8_begin (va_wsS RX8 103 yX8_inMonth wsX8_inMonth) := goodIn_app (goodIn_of _ (by decide +kernel)) ggX8_begin_X8_inMonth
theorem dX8_begin_0 : decode cX8_begin 0 = .ok (.iconst 0, 1) := by decide +kernel
theorem dX8_begin_1 : decode cX8_begin 1 = .ok (.istore_n 1, 1) := by decide +kernel
theorem dX8_begin_2 : decode cX8_begin 2 = .ok (.iconst 0, 1) := by decide +kernel
theorem dX8_begin_3 : decode cX8_begin 3 = .ok (.istore_n 2, 1) := by decide +kernel
theorem dX8_begin_4 : decode cX8_begin 4 = .ok (.iload_n 2, 1) := by decide +kernel
theorem dX8_begin_5 : decode cX8_begin 5 = .ok (.iload_n 0, 1) := by decide +kernel
theorem dX8_begin_6 : decode cX8_begin 6 = .ok (.if_icmp .ge 29, 3) := by decide +kernel
theorem dX8_begin_9 : decode cX8_begin 9 = .ok (.iload_n 1, 1) := by decide +kernel
theorem dX8_begin_10 : decode cX8_begin 10 = .ok (.sipush 1900, 3) := by decide +kernel
theorem dX8_begin_13 : decode cX8_begin 13 = .ok (.iload_n 2, 1) := by decide +kernel
theorem dX8_begin_14 : decode cX8_begin 14 = .ok (.bipush 12, 2) := by decide +kernel
theorem dX8_begin_16 : decode cX8_begin 16 = .ok (.idiv, 1) := by decide +kernel
theorem dX8_begin_17 : decode cX8_begin 17 = .ok (.iadd, 1) := by decide +kernel
theorem dX8_begin_18 : decode cX8_begin 18 = .ok (.iload_n 2, 1) := by decide +kernel
theorem dX8_begin_19 : decode cX8_begin 19 = .ok (.bipush 12, 2) := by decide +kernel
theorem dX8_begin_21 : decode cX8_begin 21 = .ok (.irem, 1) := by decide +kernel
theorem dX8_begin_22 : decode cX8_begin 22 = .ok (.iconst 1, 1) := by decide +kernel
theorem dX8_begin_23 : decode cX8_begin 23 = .ok (.iadd, 1) := by decide +kernel
theorem dX8_begin_24 : decode cX8_begin 24 = .ok (.invokestatic 103, 3) := by decide +kernel
theorem dX8_begin_27 : decode cX8_begin 27 = .ok (.iadd, 1) := by decide +kernel
theorem dX8_begin_28 : decode cX8_begin 28 = .ok (.istore_n 1, 1) := by decide +kernel
theorem dX8_begin_29 : decode cX8_begin 29 = .ok (.iinc 2 1, 3) := by decide +kernel
theorem dX8_begin_32 : decode cX8_begin 32 = .ok (.goto (-28), 3) := by decide +kernel
theorem dX8_begin_35 : decode cX8_begin 35 = .ok (.iload_n 1, 1) := by decide +kernel
theorem dX8_begin_36 : decode cX8_begin 36 = .ok (.ireturn, 1) := by decide +kernel
set_option maxRecDepth 20000 in
theorem ggX8_add_X8_monthOf : GoodIn wsX8_add wsX8_monthOf := goodIn_r _ [4, 5, 6, 3, 7] (by decide +kernel) (by decide +kernel)
set_option maxRecDepth 20000 in
theorem gX8_add_X8_monthOf : GoodIn wsX8_add (va_wsS RX8 107 yX8_monthOf wsX8_monthOf) := goodIn_app (goodIn_of _ (by decide +kernel)) ggX8_add_X8_monthOf
set_option maxRecDepth 20000 in
theorem ggX8_add_X8_begin : GoodIn wsX8_add wsX8_begin := goodIn_r _ [10, 5, 6, 3, 7] (by decide +kernel) (by decide +kernel)
set_option maxRecDepth 20000 in
theorem gX8_add_X8_begin : GoodIn wsX8_add (va_wsS RX8 111 yX8_begin wsX8_begin) := goodIn_app (goodIn_of _ (by decide +kernel)) ggX8_add_X8_begin
set_option maxRecDepth 20000 in
theorem ggX8_add_X8_inMonth : GoodIn wsX8_add wsX8_inMonth := goodIn_r _ [7] (by decide +kernel) (by decide +kernel)
set_option maxRecDepth 20000 in
theorem gX8_add_X8_inMonth : GoodIn wsX8_add (va_wsS RX8 103 yX8_inMonth wsX8_inMonth) := goodIn_app (goodIn_of _ (by decide +kernel)) ggX8_add_X8_inMonth
theorem dX8_add_0 : decode cX8_add 0 = .ok (.iload_n 0, 1) := by decide +kernel
theorem dX8_add_1 : decode cX8_add 1 = .ok (.invokestatic 107, 3) := by decide +kernel
theorem dX8_add_4 : decode cX8_add 4 = .ok (.istore_n 2, 1) := by decide +kernel
theorem dX8_add_5 : decode cX8_add 5 = .ok (.iload_n 0, 1) := by decide +kernel
theorem dX8_add_6 : decode cX8_add 6 = .ok (.iload_n 2, 1) := by decide +kernel
theorem dX8_add_7 : decode cX8_add 7 = .ok (.invokestatic 111, 3) := by decide +kernel
theorem dX8_add_10 : decode cX8_add 10 = .ok (.isub, 1) := by decide +kernel
theorem dX8_add_11 : decode cX8_add 11 = .ok (.istore_n 3, 1) := by decide +kernel
theorem dX8_add_12 : decode cX8_add 12 = .ok (.iload_n 2, 1) := by decide +kernel
theorem dX8_add_13 : decode cX8_add 13 = .ok (.iload_n 1, 1) := by decide +kernel
theorem dX8_add_14 : decode cX8_add 14 = .ok (.iadd, 1) := by decide +kernel
theorem dX8_add_15 : decode cX8_add 15 = .ok (.istore 4, 2) := by decide +kernel
theorem dX8_add_17 : decode cX8_add 17 = .ok (.sipush 1900, 3) := by decide +kernel
theorem dX8_add_20 : decode cX8_add 20 = .ok (.iload 4, 2) := by decide +kernel
theorem dX8_add_22 : decode cX8_add 22 = .ok (.bipush 12, 2) := by decide +kernel
theorem dX8_add_24 : decode cX8_add 24 = .ok (.idiv, 1) := by decide +kernel
theorem dX8_add_25 : decode cX8_add 25 = .ok (.iadd, 1) := by decide +kernel
theorem dX8_add_26 : decode cX8_add 26 = .ok (.iload 4, 2) := by decide +kernel
theorem dX8_add_28 : decode cX8_add 28 = .ok (.bipush 12, 2) := by decide +kernel
theorem dX8_add_30 : decode cX8_add 30 = .ok (.irem, 1) := by decide +kernel
theorem dX8_add_31 : decode cX8_add 31 = .ok (.iconst 1, 1) := by decide +kernel
theorem dX8_add_32 : decode cX8_add 32 = .ok (.iadd, 1) := by decide +kernel
theorem dX8_add_33 : decode cX8_add 33 = .ok (.invokestatic 103, 3) := by decide +kernel
theorem dX8_add_36 : decode cX8_add 36 = .ok (.iconst 1, 1) := by decide +kernel
theorem dX8_add_37 : decode cX8_add 37 = .ok (.isub, 1) := by decide +kernel
theorem dX8_add_38 : decode cX8_add 38 = .ok (.istore 5, 2) := by decide +kernel
theorem dX8_add_40 : decode cX8_add 40 = .ok (.iload 4, 2) := by decide +kernel
theorem dX8_add_42 : decode cX8_add 42 = .ok (.invokestatic 111, 3) := by decide +kernel
theorem dX8_add_45 : decode cX8_add 45 = .ok (.iload_n 3, 1) := by decide +kernel
theorem dX8_add_46 : decode cX8_add 46 = .ok (.iload 5, 2) := by decide +kernel
theorem dX8_add_48 : decode cX8_add 48 = .ok (.if_icmp .ge 7, 3) := by decide +kernel
theorem dX8_add_51 : decode cX8_add 51 = .ok (.iload_n 3, 1) := by decide +kernel
theorem dX8_add_52 : decode cX8_add 52 = .ok (.goto 5, 3) := by decide +kernel
theorem dX8_add_55 : decode cX8_add 55 = .ok (.iload 5, 2) := by decide +kernel
theorem dX8_add_57 : decode cX8_add 57 = .ok (.iadd, 1) := by decide +kernel
theorem dX8_add_58 : decode cX8_add 58 = .ok (.ireturn, 1) := by decide +kernel
set_option maxRecDepth 20000 in
theorem ggX8_isTerm_X8_isIn : GoodIn wsX8_isTerm wsX8_isIn := goodIn_r _ [4] (by decide +kernel) (by decide +kernel)
set_option maxRecDepth 20000 in
theorem gX8_isTerm_X8_isIn : GoodIn wsX8_isTerm (va_wsS RX8 114 yX8_isIn wsX8_isIn) := goodIn_app (goodIn_of _ (by decide +kernel)) ggX8_isTerm_X8_isIn
theorem dX8_isTerm_0 : decode cX8_isTerm 0 = .ok (.iload_n 0, 1) := by decide +kernel
theorem dX8_isTerm_1 : decode cX8_isTerm 1 = .ok (.iconst 0, 1) := by decide +kernel
theorem dX8_isTerm_2 : decode cX8_isTerm 2 = .ok (.bipush 100, 2) := by decide +kernel
theorem dX8_isTerm_4 : decode cX8_isTerm 4 = .ok (.invokestatic 114, 3) := by decide +kernel
theorem dX8_isTerm_7 : decode cX8_isTerm 7 = .ok (.ifCond .eq 17, 3) := by decide +kernel
theorem dX8_isTerm_10 : decode cX8_isTerm 10 = .ok (.iload_n 1, 1) := by decide +kernel
theorem dX8_isTerm_11 : decode cX8_isTerm 11 = .ok (.iconst 0, 1) := by decide +kernel
theorem dX8_isTerm_12 : decode cX8_isTerm 12 = .ok (.bipush 11, 2) := by decide +kernel
theorem dX8_isTerm_14 : decode cX8_isTerm 14 = .ok (.invokestatic 114, 3) := by decide +kernel
theorem dX8_isTerm_17 : decode cX8_isTerm 17 = .ok (.ifCond .eq 7, 3) := by decide +kernel
theorem dX8_isTerm_20 : decode cX8_isTerm 20 = .ok (.iconst 1, 1) := by decide +kernel
theorem dX8_isTerm_21 : decode cX8_isTerm 21 = .ok (.goto 4, 3) := by decide +kernel
theorem dX8_isTerm_24 : decode cX8_isTerm 24 = .ok (.iconst 0, 1) := by decide +kernel
theorem dX8_isTerm_25 : decode cX8_isTerm 25 = .ok (.ireturn, 1) := by decide +kernel
set_option maxRecDepth 20000 in
theorem ggX8_later_X8_isIn : GoodIn wsX8_later wsX8_isIn := goodIn_r _ [6] (by decide +kernel) (by decide +kernel)
set_option maxRecDepth 20000 in
theorem gX8_later_X8_isIn : GoodIn wsX8_later (va_wsS RX8 114 yX8_isIn wsX8_isIn) := goodIn_app (goodIn_of _ (by decide +kernel)) ggX8_later_X8_isIn
set_option maxRecDepth 20000 in
theorem ggX8_later_X8_isTerm : GoodIn wsX8_later wsX8_isTerm := goodIn_r _ [9, 3, 4, 5, 6] (by decide +kernel) (by decide +kernel)
set_option maxRecDepth 20000 in
theorem gX8_later_X8_isTerm : GoodIn wsX8_later (va_wsS RX8 119 yX8_isTerm wsX8_isTerm) := goodIn_app (goodIn_of _ (by decide +kernel)) ggX8_later_X8_isTerm
set_option maxRecDepth 20000 in
theorem ggX8_later_X8_add : GoodIn wsX8_later wsX8_add := goodIn_r _ [12, 13, 14, 5, 15, 16, 17, 18, 19, 20, 21] (by decide +kernel) (by decide +kernel)
set_option maxRecDepth 20000 in
theorem gX8_later_X8_add : GoodIn wsX8_later (va_wsS RX8 123 yX8_add wsX8_add) := goodIn_app (goodIn_of _ (by decide +kernel)) ggX8_later_X8_add
theorem dX8_later_0 : decode cX8_later 0 = .ok (.aload_n 0, 1) := by decide +kernel
theorem dX8_later_1 : decode cX8_later 1 = .ok (.iload_n 1, 1) := by decide +kernel
theorem dX8_later_2 : decode cX8_later 2 = .ok (.iconst 0, 1) := by decide +kernel
theorem dX8_later_3 : decode cX8_later 3 = .ok (.ldc 118, 2) := by decide +kernel
theorem dX8_later_5 : decode cX8_later 5 = .ok (.invokestatic 114, 3) := by decide +kernel
theorem dX8_later_8 : decode cX8_later 8 = .ok (.ifCond .eq 15, 3) := by decide +kernel
theorem dX8_later_11 : decode cX8_later 11 = .ok (.iload_n 2, 1) := by decide +kernel
theorem dX8_later_12 : decode cX8_later 12 = .ok (.iload_n 3, 1) := by decide +kernel
theorem dX8_later_13 : decode cX8_later 13 = .ok (.invokestatic 119, 3) := by decide +kernel
theorem dX8_later_16 : decode cX8_later 16 = .ok (.ifCond .eq 7, 3) := by decide +kernel
theorem dX8_later_19 : decode cX8_later 19 = .ok (.iconst 0, 1) := by decide +kernel
theorem dX8_later_20 : decode cX8_later 20 = .ok (.goto 4, 3) := by decide +kernel
theorem dX8_later_23 : decode cX8_later 23 = .ok (.iconst 1, 1) := by decide +kernel
theorem dX8_later_24 : decode cX8_later 24 = .ok (.putfield 100, 3) := by decide +kernel
theorem dX8_later_27 : decode cX8_later 27 = .ok (.aload_n 0, 1) := by decide +kernel
theorem dX8_later_28 : decode cX8_later 28 = .ok (.getfield 100, 3) := by decide +kernel
theorem dX8_later_31 : decode cX8_later 31 = .ok (.ifCond .le 7, 3) := by decide +kernel
theorem dX8_later_34 : decode cX8_later 34 = .ok (.iconst 0, 1) := by decide +kernel
theorem dX8_later_35 : decode cX8_later 35 = .ok (.goto 13, 3) := by decide +kernel
theorem dX8_later_38 : decode cX8_later 38 = .ok (.iload_n 1, 1) := by decide +kernel
theorem dX8_later_39 : decode cX8_later 39 = .ok (.bipush 12, 2) := by decide +kernel
theorem dX8_later_41 : decode cX8_later 41 = .ok (.iload_n 2, 1) := by decide +kernel
theorem dX8_later_42 : decode cX8_later 42 = .ok (.imul, 1) := by decide +kernel
theorem dX8_later_43 : decode cX8_later 43 = .ok (.iload_n 3, 1) := by decide +kernel
theorem dX8_later_44 : decode cX8_later 44 = .ok (.iadd, 1) := by decide +kernel
theorem dX8_later_45 : decode cX8_later 45 = .ok (.invokestatic 123, 3) := by decide +kernel
theorem dX8_later_48 : decode cX8_later 48 = .ok (.ireturn, 1) := by decide +kernel
set_option maxRecDepth 20000 in
theorem ggX8_fiscalEnd_X8_monthOf : GoodIn wsX8_fiscalEnd wsX8_monthOf := goodIn_r _ [5, 6, 7, 4, 8] (by decide +kernel) (by decide +kernel)
set_option maxRecDepth 20000 in
theorem gX8_fiscalEnd_X8_monthOf : GoodIn wsX8_fiscalEnd (va_wsS RX8 107 yX8_monthOf wsX8_monthOf) := goodIn_app (goodIn_of _ (by decide +kernel)) ggX8_fiscalEnd_X8_monthOf
set_option maxRecDepth 20000 in
theorem ggX8_fiscalEnd_X8_begin : GoodIn wsX8_fiscalEnd wsX8_begin := goodIn_r _ [11, 6, 7, 4, 8] (by decide +kernel) (by decide +kernel)
set_option maxRecDepth 20000 in
theorem gX8_fiscalEnd_X8_begin : GoodIn wsX8_fiscalEnd (va_wsS RX8 111 yX8_begin wsX8_begin) := goodIn_app (goodIn_of _ (by decide +kernel)) ggX8_fiscalEnd_X8_begin
theorem dX8_fiscalEnd_0 : decode cX8_fiscalEnd 0 = .ok (.iload_n 1, 1) := by decide +kernel
theorem dX8_fiscalEnd_1 : decode cX8_fiscalEnd 1 = .ok (.invokestatic 107, 3) := by decide +kernel
theorem dX8_fiscalEnd_4 : decode cX8_fiscalEnd 4 = .ok (.iconst 1, 1) := by decide +kernel
theorem dX8_fiscalEnd_5 : decode cX8_fiscalEnd 5 = .ok (.iadd, 1) := by decide +kernel
theorem dX8_fiscalEnd_6 : decode cX8_fiscalEnd 6 = .ok (.istore_n 2, 1) := by decide +kernel
theorem dX8_fiscalEnd_7 : decode cX8_fiscalEnd 7 = .ok (.iload_n 2, 1) := by decide +kernel
theorem dX8_fiscalEnd_8 : decode cX8_fiscalEnd 8 = .ok (.bipush 12, 2) := by decide +kernel
theorem dX8_fiscalEnd_10 : decode cX8_fiscalEnd 10 = .ok (.irem, 1) := by decide +kernel
theorem dX8_fiscalEnd_11 : decode cX8_fiscalEnd 11 = .ok (.iconst 1, 1) := by decide +kernel
theorem dX8_fiscalEnd_12 : decode cX8_fiscalEnd 12 = .ok (.iadd, 1) := by decide +kernel
theorem dX8_fiscalEnd_13 : decode cX8_fiscalEnd 13 = .ok (.aload_n 0, 1) := by decide +kernel
theorem dX8_fiscalEnd_14 : decode cX8_fiscalEnd 14 = .ok (.getfield 13, 3) := by decide +kernel
theorem dX8_fiscalEnd_17 : decode cX8_fiscalEnd 17 = .ok (.if_icmp .eq 9, 3) := by decide +kernel
theorem dX8_fiscalEnd_20 : decode cX8_fiscalEnd 20 = .ok (.iinc 2 1, 3) := by decide +kernel
theorem dX8_fiscalEnd_23 : decode cX8_fiscalEnd 23 = .ok (.goto (-16), 3) := by decide +kernel
theorem dX8_fiscalEnd_26 : decode cX8_fiscalEnd 26 = .ok (.iload_n 2, 1) := by decide +kernel
theorem dX8_fiscalEnd_27 : decode cX8_fiscalEnd 27 = .ok (.invokestatic 111, 3) := by decide +kernel
theorem dX8_fiscalEnd_30 : decode cX8_fiscalEnd 30 = .ok (.iconst 1, 1) := by decide +kernel
theorem dX8_fiscalEnd_31 : decode cX8_fiscalEnd 31 = .ok (.isub, 1) := by decide +kernel
theorem dX8_fiscalEnd_32 : decode cX8_fiscalEnd 32 = .ok (.ireturn, 1) := by decide +kernel
set_option maxRecDepth 20000 in
theorem ggX8_isDay_X8_isIn : GoodIn wsX8_isDay wsX8_isIn := goodIn_r _ [6] (by decide +kernel) (by decide +kernel)
set_option maxRecDepth 20000 in
theorem gX8_isDay_X8_isIn : GoodIn wsX8_isDay (va_wsS RX8 114 yX8_isIn wsX8_isIn) := goodIn_app (goodIn_of _ (by decide +kernel)) ggX8_isDay_X8_isIn
theorem dX8_isDay_0 : decode cX8_isDay 0 = .ok (.iload_n 1, 1) := by decide +kernel
theorem dX8_isDay_1 : decode cX8_isDay 1 = .ok (.iconst 0, 1) := by decide +kernel
theorem dX8_isDay_2 : decode cX8_isDay 2 = .ok (.ldc 118, 2) := by decide +kernel
theorem dX8_isDay_4 : decode cX8_isDay 4 = .ok (.invokestatic 114, 3) := by decide +kernel
theorem dX8_isDay_7 : decode cX8_isDay 7 = .ok (.ifCond .eq 15, 3) := by decide +kernel
theorem dX8_isDay_10 : decode cX8_isDay 10 = .ok (.iload_n 1, 1) := by decide +kernel
theorem dX8_isDay_11 : decode cX8_isDay 11 = .ok (.aload_n 0, 1) := by decide +kernel
theorem dX8_isDay_12 : decode cX8_isDay 12 = .ok (.getfield 126, 3) := by decide +kernel
theorem dX8_isDay_15 : decode cX8_isDay 15 = .ok (.if_icmp .lt 7, 3) := by decide +kernel
theorem dX8_isDay_18 : decode cX8_isDay 18 = .ok (.iconst 1, 1) := by decide +kernel
theorem dX8_isDay_19 : decode cX8_isDay 19 = .ok (.goto 4, 3) := by decide +kernel
theorem dX8_isDay_22 : decode cX8_isDay 22 = .ok (.iconst 0, 1) := by decide +kernel
theorem dX8_isDay_23 : decode cX8_isDay 23 = .ok (.ireturn, 1) := by decide +kernel
theorem dX8_linked_0 : decode cX8_linked 0 = .ok (.lload_n 0, 1) := by decide +kernel
theorem dX8_linked_1 : decode cX8_linked 1 = .ok (.lload_n 2, 1) := by decide +kernel
theorem dX8_linked_2 : decode cX8_linked 2 = .ok (.lxor, 1) := by decide +kernel
theorem dX8_linked_3 : decode cX8_linked 3 = .ok (.ldc2_w 129, 3) := by decide +kernel
theorem dX8_linked_6 : decode cX8_linked 6 = .ok (.lmul, 1) := by decide +kernel
theorem dX8_linked_7 : decode cX8_linked 7 = .ok (.lstore 4, 2) := by decide +kernel
theorem dX8_linked_9 : decode cX8_linked 9 = .ok (.lload 4, 2) := by decide +kernel
theorem dX8_linked_11 : decode cX8_linked 11 = .ok (.lload 4, 2) := by decide +kernel
theorem dX8_linked_13 : decode cX8_linked 13 = .ok (.bipush 29, 2) := by decide +kernel
theorem dX8_linked_15 : decode cX8_linked 15 = .ok (.lushr, 1) := by decide +kernel
theorem dX8_linked_16 : decode cX8_linked 16 = .ok (.lxor, 1) := by decide +kernel
theorem dX8_linked_17 : decode cX8_linked 17 = .ok (.lreturn, 1) := by decide +kernel
set_option maxRecDepth 20000 in
theorem ggX8_linkOf_X8_linked : GoodIn wsX8_linkOf wsX8_linked := goodIn_r _ [8, 9] (by decide +kernel) (by decide +kernel)
set_option maxRecDepth 20000 in
theorem gX8_linkOf_X8_linked : GoodIn wsX8_linkOf (va_wsS RX8 131 yX8_linked wsX8_linked) := goodIn_app (goodIn_of _ (by decide +kernel)) ggX8_linkOf_X8_linked
set_option maxRecDepth 20000 in
theorem ggX8_linkOf_X8_isIn : GoodIn wsX8_linkOf wsX8_isIn := goodIn_r _ [12] (by decide +kernel) (by decide +kernel)
set_option maxRecDepth 20000 in
theorem gX8_linkOf_X8_isIn : GoodIn wsX8_linkOf (va_wsS RX8 114 yX8_isIn wsX8_isIn) := goodIn_app (goodIn_of _ (by decide +kernel)) ggX8_linkOf_X8_isIn
theorem dX8_linkOf_0 : decode cX8_linkOf 0 = .ok (.iload_n 1, 1) := by decide +kernel
theorem dX8_linkOf_1 : decode cX8_linkOf 1 = .ok (.ifCond .ne 7, 3) := by decide +kernel
theorem dX8_linkOf_4 : decode cX8_linkOf 4 = .ok (.lconst 0, 1) := by decide +kernel
theorem dX8_linkOf_5 : decode cX8_linkOf 5 = .ok (.goto 11, 3) := by decide +kernel
theorem dX8_linkOf_8 : decode cX8_linkOf 8 = .ok (.aload_n 0, 1) := by decide +kernel
theorem dX8_linkOf_9 : decode cX8_linkOf 9 = .ok (.getfield 97, 3) := by decide +kernel
theorem dX8_linkOf_12 : decode cX8_linkOf 12 = .ok (.iload_n 1, 1) := by decide +kernel
theorem dX8_linkOf_13 : decode cX8_linkOf 13 = .ok (.iconst 1, 1) := by decide +kernel
theorem dX8_linkOf_14 : decode cX8_linkOf 14 = .ok (.isub, 1) := by decide +kernel
theorem dX8_linkOf_15 : decode cX8_linkOf 15 = .ok (.laload, 1) := by decide +kernel
theorem dX8_linkOf_16 : decode cX8_linkOf 16 = .ok (.lstore_n 2, 1) := by decide +kernel
theorem dX8_linkOf_17 : decode cX8_linkOf 17 = .ok (.iconst 0, 1) := by decide +kernel
theorem dX8_linkOf_18 : decode cX8_linkOf 18 = .ok (.istore 4, 2) := by decide +kernel
theorem dX8_linkOf_20 : decode cX8_linkOf 20 = .ok (.iload 4, 2) := by decide +kernel
theorem dX8_linkOf_22 : decode cX8_linkOf 22 = .ok (.iconst 4, 1) := by decide +kernel
theorem dX8_linkOf_23 : decode cX8_linkOf 23 = .ok (.if_icmp .ge 26, 3) := by decide +kernel
theorem dX8_linkOf_26 : decode cX8_linkOf 26 = .ok (.lload_n 2, 1) := by decide +kernel
theorem dX8_linkOf_27 : decode cX8_linkOf 27 = .ok (.aload_n 0, 1) := by decide +kernel
theorem dX8_linkOf_28 : decode cX8_linkOf 28 = .ok (.getfield 94, 3) := by decide +kernel
theorem dX8_linkOf_31 : decode cX8_linkOf 31 = .ok (.iconst 4, 1) := by decide +kernel
theorem dX8_linkOf_32 : decode cX8_linkOf 32 = .ok (.iload_n 1, 1) := by decide +kernel
theorem dX8_linkOf_33 : decode cX8_linkOf 33 = .ok (.imul, 1) := by decide +kernel
theorem dX8_linkOf_34 : decode cX8_linkOf 34 = .ok (.iload 4, 2) := by decide +kernel
theorem dX8_linkOf_36 : decode cX8_linkOf 36 = .ok (.iadd, 1) := by decide +kernel
theorem dX8_linkOf_37 : decode cX8_linkOf 37 = .ok (.iaload, 1) := by decide +kernel
theorem dX8_linkOf_38 : decode cX8_linkOf 38 = .ok (.i2l, 1) := by decide +kernel
theorem dX8_linkOf_39 : decode cX8_linkOf 39 = .ok (.invokestatic 131, 3) := by decide +kernel
theorem dX8_linkOf_42 : decode cX8_linkOf 42 = .ok (.lstore_n 2, 1) := by decide +kernel
theorem dX8_linkOf_43 : decode cX8_linkOf 43 = .ok (.iinc 4 1, 3) := by decide +kernel
theorem dX8_linkOf_46 : decode cX8_linkOf 46 = .ok (.goto (-26), 3) := by decide +kernel
theorem dX8_linkOf_49 : decode cX8_linkOf 49 = .ok (.aload_n 0, 1) := by decide +kernel
theorem dX8_linkOf_50 : decode cX8_linkOf 50 = .ok (.getfield 94, 3) := by decide +kernel
theorem dX8_linkOf_53 : decode cX8_linkOf 53 = .ok (.iconst 4, 1) := by decide +kernel
theorem dX8_linkOf_54 : decode cX8_linkOf 54 = .ok (.iload_n 1, 1) := by decide +kernel
theorem dX8_linkOf_55 : decode cX8_linkOf 55 = .ok (.imul, 1) := by decide +kernel
theorem dX8_linkOf_56 : decode cX8_linkOf 56 = .ok (.iaload, 1) := by decide +kernel
theorem dX8_linkOf_57 : decode cX8_linkOf 57 = .ok (.istore 4, 2) := by decide +kernel
theorem dX8_linkOf_59 : decode cX8_linkOf 59 = .ok (.aload_n 0, 1) := by decide +kernel
theorem dX8_linkOf_60 : decode cX8_linkOf 60 = .ok (.getfield 94, 3) := by decide +kernel
theorem dX8_linkOf_63 : decode cX8_linkOf 63 = .ok (.iconst 4, 1) := by decide +kernel
theorem dX8_linkOf_64 : decode cX8_linkOf 64 = .ok (.iload_n 1, 1) := by decide +kernel
theorem dX8_linkOf_65 : decode cX8_linkOf 65 = .ok (.imul, 1) := by decide +kernel
theorem dX8_linkOf_66 : decode cX8_linkOf 66 = .ok (.iconst 1, 1) := by decide +kernel
theorem dX8_linkOf_67 : decode cX8_linkOf 67 = .ok (.iadd, 1) := by decide +kernel
theorem dX8_linkOf_68 : decode cX8_linkOf 68 = .ok (.iaload, 1) := by decide +kernel
theorem dX8_linkOf_69 : decode cX8_linkOf 69 = .ok (.istore 5, 2) := by decide +kernel
theorem dX8_linkOf_71 : decode cX8_linkOf 71 = .ok (.iload 4, 2) := by decide +kernel
theorem dX8_linkOf_73 : decode cX8_linkOf 73 = .ok (.iconst 5, 1) := by decide +kernel
theorem dX8_linkOf_74 : decode cX8_linkOf 74 = .ok (.if_icmp .eq 10, 3) := by decide +kernel
theorem dX8_linkOf_77 : decode cX8_linkOf 77 = .ok (.iload 4, 2) := by decide +kernel
theorem dX8_linkOf_79 : decode cX8_linkOf 79 = .ok (.bipush 11, 2) := by decide +kernel
theorem dX8_linkOf_81 : decode cX8_linkOf 81 = .ok (.if_icmp .ne 36, 3) := by decide +kernel
theorem dX8_linkOf_84 : decode cX8_linkOf 84 = .ok (.lload_n 2, 1) := by decide +kernel
theorem dX8_linkOf_85 : decode cX8_linkOf 85 = .ok (.iload 5, 2) := by decide +kernel
theorem dX8_linkOf_87 : decode cX8_linkOf 87 = .ok (.iconst 0, 1) := by decide +kernel
theorem dX8_linkOf_88 : decode cX8_linkOf 88 = .ok (.aload_n 0, 1) := by decide +kernel
theorem dX8_linkOf_89 : decode cX8_linkOf 89 = .ok (.getfield 135, 3) := by decide +kernel
theorem dX8_linkOf_92 : decode cX8_linkOf 92 = .ok (.iconst 1, 1) := by decide +kernel
theorem dX8_linkOf_93 : decode cX8_linkOf 93 = .ok (.isub, 1) := by decide +kernel
theorem dX8_linkOf_94 : decode cX8_linkOf 94 = .ok (.invokestatic 114, 3) := by decide +kernel
theorem dX8_linkOf_97 : decode cX8_linkOf 97 = .ok (.ifCond .eq 13, 3) := by decide +kernel
theorem dX8_linkOf_100 : decode cX8_linkOf 100 = .ok (.aload_n 0, 1) := by decide +kernel
theorem dX8_linkOf_101 : decode cX8_linkOf 101 = .ok (.getfield 51, 3) := by decide +kernel
theorem dX8_linkOf_104 : decode cX8_linkOf 104 = .ok (.iload 5, 2) := by decide +kernel
theorem dX8_linkOf_106 : decode cX8_linkOf 106 = .ok (.laload, 1) := by decide +kernel
theorem dX8_linkOf_107 : decode cX8_linkOf 107 = .ok (.goto 4, 3) := by decide +kernel
theorem dX8_linkOf_110 : decode cX8_linkOf 110 = .ok (.lconst 0, 1) := by decide +kernel
theorem dX8_linkOf_111 : decode cX8_linkOf 111 = .ok (.invokestatic 131, 3) := by decide +kernel
theorem dX8_linkOf_114 : decode cX8_linkOf 114 = .ok (.goto 4, 3) := by decide +kernel
theorem dX8_linkOf_117 : decode cX8_linkOf 117 = .ok (.lload_n 2, 1) := by decide +kernel
theorem dX8_linkOf_118 : decode cX8_linkOf 118 = .ok (.lreturn, 1) := by decide +kernel
set_option maxRecDepth 20000 in
theorem ggX8_write_X8_linkOf : GoodIn wsX8_write wsX8_linkOf := goodIn_r _ [8, 3, 1, 9, 10, 11, 12, 7, 13, 14, 15, 16, 17, 18, 19, 20, 21, 22, 23, 24, 25, 26, 27, 28, 29, 30, 31, 32, 33, 34, 35, 36, 37, 38, 39, 40, 41, 42, 43, 44, 45, 46, 47, 48, 49, 50, 51] (by decide +kernel) (by decide +kernel)
set_option maxRecDepth 20000 in
theorem gX8_write_X8_linkOf : GoodIn wsX8_write (wsV RX8 141 RX8 yX8_linkOf wsX8_linkOf) := goodIn_app (goodIn_of _ (by decide +kernel)) ggX8_write_X8_linkOf
theorem dX8_write_0 : decode cX8_write 0 = .ok (.aload_n 0, 1) := by decide +kernel
theorem dX8_write_1 : decode cX8_write 1 = .ok (.getfield 94, 3) := by decide +kernel
theorem dX8_write_4 : decode cX8_write 4 = .ok (.iconst 4, 1) := by decide +kernel
theorem dX8_write_5 : decode cX8_write 5 = .ok (.aload_n 0, 1) := by decide +kernel
theorem dX8_write_6 : decode cX8_write 6 = .ok (.getfield 138, 3) := by decide +kernel
theorem dX8_write_9 : decode cX8_write 9 = .ok (.imul, 1) := by decide +kernel
theorem dX8_write_10 : decode cX8_write 10 = .ok (.iload_n 1, 1) := by decide +kernel
theorem dX8_write_11 : decode cX8_write 11 = .ok (.iastore, 1) := by decide +kernel
theorem dX8_write_12 : decode cX8_write 12 = .ok (.aload_n 0, 1) := by decide +kernel
theorem dX8_write_13 : decode cX8_write 13 = .ok (.getfield 94, 3) := by decide +kernel
theorem dX8_write_16 : decode cX8_write 16 = .ok (.iconst 4, 1) := by decide +kernel
theorem dX8_write_17 : decode cX8_write 17 = .ok (.aload_n 0, 1) := by decide +kernel
theorem dX8_write_18 : decode cX8_write 18 = .ok (.getfield 138, 3) := by decide +kernel
theorem dX8_write_21 : decode cX8_write 21 = .ok (.imul, 1) := by decide +kernel
theorem dX8_write_22 : decode cX8_write 22 = .ok (.iconst 1, 1) := by decide +kernel
theorem dX8_write_23 : decode cX8_write 23 = .ok (.iadd, 1) := by decide +kernel
theorem dX8_write_24 : decode cX8_write 24 = .ok (.iload_n 2, 1) := by decide +kernel
theorem dX8_write_25 : decode cX8_write 25 = .ok (.iastore, 1) := by decide +kernel
theorem dX8_write_26 : decode cX8_write 26 = .ok (.aload_n 0, 1) := by decide +kernel
theorem dX8_write_27 : decode cX8_write 27 = .ok (.getfield 94, 3) := by decide +kernel
theorem dX8_write_30 : decode cX8_write 30 = .ok (.iconst 4, 1) := by decide +kernel
theorem dX8_write_31 : decode cX8_write 31 = .ok (.aload_n 0, 1) := by decide +kernel
theorem dX8_write_32 : decode cX8_write 32 = .ok (.getfield 138, 3) := by decide +kernel
theorem dX8_write_35 : decode cX8_write 35 = .ok (.imul, 1) := by decide +kernel
theorem dX8_write_36 : decode cX8_write 36 = .ok (.iconst 2, 1) := by decide +kernel
theorem dX8_write_37 : decode cX8_write 37 = .ok (.iadd, 1) := by decide +kernel
theorem dX8_write_38 : decode cX8_write 38 = .ok (.iload_n 3, 1) := by decide +kernel
theorem dX8_write_39 : decode cX8_write 39 = .ok (.iastore, 1) := by decide +kernel
theorem dX8_write_40 : decode cX8_write 40 = .ok (.aload_n 0, 1) := by decide +kernel
theorem dX8_write_41 : decode cX8_write 41 = .ok (.getfield 94, 3) := by decide +kernel
theorem dX8_write_44 : decode cX8_write 44 = .ok (.iconst 4, 1) := by decide +kernel
theorem dX8_write_45 : decode cX8_write 45 = .ok (.aload_n 0, 1) := by decide +kernel
theorem dX8_write_46 : decode cX8_write 46 = .ok (.getfield 138, 3) := by decide +kernel
theorem dX8_write_49 : decode cX8_write 49 = .ok (.imul, 1) := by decide +kernel
theorem dX8_write_50 : decode cX8_write 50 = .ok (.iconst 3, 1) := by decide +kernel
theorem dX8_write_51 : decode cX8_write 51 = .ok (.iadd, 1) := by decide +kernel
theorem dX8_write_52 : decode cX8_write 52 = .ok (.iload 4, 2) := by decide +kernel
theorem dX8_write_54 : decode cX8_write 54 = .ok (.iastore, 1) := by decide +kernel
theorem dX8_write_55 : decode cX8_write 55 = .ok (.aload_n 0, 1) := by decide +kernel
theorem dX8_write_56 : decode cX8_write 56 = .ok (.getfield 97, 3) := by decide +kernel
theorem dX8_write_59 : decode cX8_write 59 = .ok (.aload_n 0, 1) := by decide +kernel
theorem dX8_write_60 : decode cX8_write 60 = .ok (.getfield 138, 3) := by decide +kernel
theorem dX8_write_63 : decode cX8_write 63 = .ok (.aload_n 0, 1) := by decide +kernel
theorem dX8_write_64 : decode cX8_write 64 = .ok (.aload_n 0, 1) := by decide +kernel
theorem dX8_write_65 : decode cX8_write 65 = .ok (.getfield 138, 3) := by decide +kernel
theorem dX8_write_68 : decode cX8_write 68 = .ok (.invokevirtual 141, 3) := by decide +kernel
theorem dX8_write_71 : decode cX8_write 71 = .ok (.lastore, 1) := by decide +kernel
theorem dX8_write_72 : decode cX8_write 72 = .ok (.aload_n 0, 1) := by decide +kernel
theorem dX8_write_73 : decode cX8_write 73 = .ok (.dup, 1) := by decide +kernel
theorem dX8_write_74 : decode cX8_write 74 = .ok (.getfield 138, 3) := by decide +kernel
theorem dX8_write_77 : decode cX8_write 77 = .ok (.iconst 1, 1) := by decide +kernel
theorem dX8_write_78 : decode cX8_write 78 = .ok (.iadd, 1) := by decide +kernel
theorem dX8_write_79 : decode cX8_write 79 = .ok (.putfield 138, 3) := by decide +kernel
theorem dX8_write_82 : decode cX8_write 82 = .ok (.return_, 1) := by decide +kernel
theorem dX8_hasRoom_0 : decode cX8_hasRoom 0 = .ok (.aload_n 0, 1) := by decide +kernel
theorem dX8_hasRoom_1 : decode cX8_hasRoom 1 = .ok (.getfield 138, 3) := by decide +kernel
theorem dX8_hasRoom_4 : decode cX8_hasRoom 4 = .ok (.iload_n 1, 1) := by decide +kernel
theorem dX8_hasRoom_5 : decode cX8_hasRoom 5 = .ok (.iadd, 1) := by decide +kernel
theorem dX8_hasRoom_6 : decode cX8_hasRoom 6 = .ok (.sipush 400, 3) := by decide +kernel
theorem dX8_hasRoom_9 : decode cX8_hasRoom 9 = .ok (.if_icmp .gt 7, 3) := by decide +kernel
theorem dX8_hasRoom_12 : decode cX8_hasRoom 12 = .ok (.iconst 1, 1) := by decide +kernel
theorem dX8_hasRoom_13 : decode cX8_hasRoom 13 = .ok (.goto 4, 3) := by decide +kernel
theorem dX8_hasRoom_16 : decode cX8_hasRoom 16 = .ok (.iconst 0, 1) := by decide +kernel
theorem dX8_hasRoom_17 : decode cX8_hasRoom 17 = .ok (.ireturn, 1) := by decide +kernel
set_option maxRecDepth 20000 in
theorem ggX8_officer_X8_isIn : GoodIn wsX8_officer wsX8_isIn := goodIn_r _ [6] (by decide +kernel) (by decide +kernel)
set_option maxRecDepth 20000 in
theorem gX8_officer_X8_isIn : GoodIn wsX8_officer (va_wsS RX8 114 yX8_isIn wsX8_isIn) := goodIn_app (goodIn_of _ (by decide +kernel)) ggX8_officer_X8_isIn
theorem dX8_officer_0 : decode cX8_officer 0 = .ok (.aload_n 0, 1) := by decide +kernel
theorem dX8_officer_1 : decode cX8_officer 1 = .ok (.iload_n 1, 1) := by decide +kernel
theorem dX8_officer_2 : decode cX8_officer 2 = .ok (.iconst 0, 1) := by decide +kernel
theorem dX8_officer_3 : decode cX8_officer 3 = .ok (.bipush 7, 2) := by decide +kernel
theorem dX8_officer_5 : decode cX8_officer 5 = .ok (.invokestatic 114, 3) := by decide +kernel
theorem dX8_officer_8 : decode cX8_officer 8 = .ok (.ifCond .ne 7, 3) := by decide +kernel
theorem dX8_officer_11 : decode cX8_officer 11 = .ok (.iconst 1, 1) := by decide +kernel
theorem dX8_officer_12 : decode cX8_officer 12 = .ok (.goto 18, 3) := by decide +kernel
theorem dX8_officer_15 : decode cX8_officer 15 = .ok (.iload_n 2, 1) := by decide +kernel
theorem dX8_officer_16 : decode cX8_officer 16 = .ok (.iconst 0, 1) := by decide +kernel
theorem dX8_officer_17 : decode cX8_officer 17 = .ok (.bipush 7, 2) := by decide +kernel
theorem dX8_officer_19 : decode cX8_officer 19 = .ok (.invokestatic 114, 3) := by decide +kernel
theorem dX8_officer_22 : decode cX8_officer 22 = .ok (.ifCond .eq 7, 3) := by decide +kernel
theorem dX8_officer_25 : decode cX8_officer 25 = .ok (.iconst 0, 1) := by decide +kernel
theorem dX8_officer_26 : decode cX8_officer 26 = .ok (.goto 4, 3) := by decide +kernel
theorem dX8_officer_29 : decode cX8_officer 29 = .ok (.iconst 2, 1) := by decide +kernel
theorem dX8_officer_30 : decode cX8_officer 30 = .ok (.putfield 100, 3) := by decide +kernel
theorem dX8_officer_33 : decode cX8_officer 33 = .ok (.aload_n 0, 1) := by decide +kernel
theorem dX8_officer_34 : decode cX8_officer 34 = .ok (.getfield 100, 3) := by decide +kernel
theorem dX8_officer_37 : decode cX8_officer 37 = .ok (.ifCond .ne 10, 3) := by decide +kernel
theorem dX8_officer_40 : decode cX8_officer 40 = .ok (.aload_n 0, 1) := by decide +kernel
theorem dX8_officer_41 : decode cX8_officer 41 = .ok (.getfield 7, 3) := by decide +kernel
theorem dX8_officer_44 : decode cX8_officer 44 = .ok (.iload_n 1, 1) := by decide +kernel
theorem dX8_officer_45 : decode cX8_officer 45 = .ok (.iload_n 2, 1) := by decide +kernel
theorem dX8_officer_46 : decode cX8_officer 46 = .ok (.iastore, 1) := by decide +kernel
theorem dX8_officer_47 : decode cX8_officer 47 = .ok (.return_, 1) := by decide +kernel
set_option maxRecDepth 20000 in
theorem ggX8_isVersion_X8_isIn : GoodIn wsX8_isVersion wsX8_isIn := goodIn_r _ [8] (by decide +kernel) (by decide +kernel)
set_option maxRecDepth 20000 in
theorem gX8_isVersion_X8_isIn : GoodIn wsX8_isVersion (va_wsS RX8 114 yX8_isIn wsX8_isIn) := goodIn_app (goodIn_of _ (by decide +kernel)) ggX8_isVersion_X8_isIn
set_option maxRecDepth 20000 in
theorem ggX8_isVersion_X8_isTerm : GoodIn wsX8_isVersion wsX8_isTerm := goodIn_r _ [11, 5, 6, 7, 8] (by decide +kernel) (by decide +kernel)
set_option maxRecDepth 20000 in
theorem gX8_isVersion_X8_isTerm : GoodIn wsX8_isVersion (va_wsS RX8 119 yX8_isTerm wsX8_isTerm) := goodIn_app (goodIn_of _ (by decide +kernel)) ggX8_isVersion_X8_isTerm
theorem dX8_isVersion_0 : decode cX8_isVersion 0 = .ok (.aload_n 0, 1) := by decide +kernel
theorem dX8_isVersion_1 : decode cX8_isVersion 1 = .ok (.getfield 20, 3) := by decide +kernel
theorem dX8_isVersion_4 : decode cX8_isVersion 4 = .ok (.iload_n 1, 1) := by decide +kernel
theorem dX8_isVersion_5 : decode cX8_isVersion 5 = .ok (.iaload, 1) := by decide +kernel
theorem dX8_isVersion_6 : decode cX8_isVersion 6 = .ok (.istore 6, 2) := by decide +kernel
theorem dX8_isVersion_8 : decode cX8_isVersion 8 = .ok (.iload 6, 2) := by decide +kernel
theorem dX8_isVersion_10 : decode cX8_isVersion 10 = .ok (.ifCond .eq 32, 3) := by decide +kernel
theorem dX8_isVersion_13 : decode cX8_isVersion 13 = .ok (.iload_n 2, 1) := by decide +kernel
theorem dX8_isVersion_14 : decode cX8_isVersion 14 = .ok (.aload_n 0, 1) := by decide +kernel
theorem dX8_isVersion_15 : decode cX8_isVersion 15 = .ok (.getfield 17, 3) := by decide +kernel
theorem dX8_isVersion_18 : decode cX8_isVersion 18 = .ok (.iload_n 1, 1) := by decide +kernel
theorem dX8_isVersion_19 : decode cX8_isVersion 19 = .ok (.iaload, 1) := by decide +kernel
theorem dX8_isVersion_20 : decode cX8_isVersion 20 = .ok (.if_icmp .ne 26, 3) := by decide +kernel
theorem dX8_isVersion_23 : decode cX8_isVersion 23 = .ok (.iload 5, 2) := by decide +kernel
theorem dX8_isVersion_25 : decode cX8_isVersion 25 = .ok (.aload_n 0, 1) := by decide +kernel
theorem dX8_isVersion_26 : decode cX8_isVersion 26 = .ok (.getfield 26, 3) := by decide +kernel
theorem dX8_isVersion_29 : decode cX8_isVersion 29 = .ok (.bipush 6, 2) := by decide +kernel
theorem dX8_isVersion_31 : decode cX8_isVersion 31 = .ok (.iload_n 1, 1) := by decide +kernel
theorem dX8_isVersion_32 : decode cX8_isVersion 32 = .ok (.imul, 1) := by decide +kernel
theorem dX8_isVersion_33 : decode cX8_isVersion 33 = .ok (.iload 6, 2) := by decide +kernel
theorem dX8_isVersion_35 : decode cX8_isVersion 35 = .ok (.iadd, 1) := by decide +kernel
theorem dX8_isVersion_36 : decode cX8_isVersion 36 = .ok (.iconst 1, 1) := by decide +kernel
theorem dX8_isVersion_37 : decode cX8_isVersion 37 = .ok (.isub, 1) := by decide +kernel
theorem dX8_isVersion_38 : decode cX8_isVersion 38 = .ok (.iaload, 1) := by decide +kernel
theorem dX8_isVersion_39 : decode cX8_isVersion 39 = .ok (.if_icmp .lt 7, 3) := by decide +kernel
theorem dX8_isVersion_42 : decode cX8_isVersion 42 = .ok (.iconst 1, 1) := by decide +kernel
theorem dX8_isVersion_43 : decode cX8_isVersion 43 = .ok (.goto 4, 3) := by decide +kernel
theorem dX8_isVersion_46 : decode cX8_isVersion 46 = .ok (.iconst 0, 1) := by decide +kernel
theorem dX8_isVersion_47 : decode cX8_isVersion 47 = .ok (.istore 7, 2) := by decide +kernel
theorem dX8_isVersion_49 : decode cX8_isVersion 49 = .ok (.iload_n 2, 1) := by decide +kernel
theorem dX8_isVersion_50 : decode cX8_isVersion 50 = .ok (.iconst 0, 1) := by decide +kernel
theorem dX8_isVersion_51 : decode cX8_isVersion 51 = .ok (.iconst 3, 1) := by decide +kernel
theorem dX8_isVersion_52 : decode cX8_isVersion 52 = .ok (.invokestatic 114, 3) := by decide +kernel
theorem dX8_isVersion_55 : decode cX8_isVersion 55 = .ok (.ifCond .eq 32, 3) := by decide +kernel
theorem dX8_isVersion_58 : decode cX8_isVersion 58 = .ok (.iload_n 3, 1) := by decide +kernel
theorem dX8_isVersion_59 : decode cX8_isVersion 59 = .ok (.iload 4, 2) := by decide +kernel
theorem dX8_isVersion_61 : decode cX8_isVersion 61 = .ok (.invokestatic 119, 3) := by decide +kernel
theorem dX8_isVersion_64 : decode cX8_isVersion 64 = .ok (.ifCond .eq 23, 3) := by decide +kernel
theorem dX8_isVersion_67 : decode cX8_isVersion 67 = .ok (.iload 5, 2) := by decide +kernel
theorem dX8_isVersion_69 : decode cX8_isVersion 69 = .ok (.iconst 0, 1) := by decide +kernel
theorem dX8_isVersion_70 : decode cX8_isVersion 70 = .ok (.ldc 118, 2) := by decide +kernel
theorem dX8_isVersion_72 : decode cX8_isVersion 72 = .ok (.invokestatic 114, 3) := by decide +kernel
theorem dX8_isVersion_75 : decode cX8_isVersion 75 = .ok (.ifCond .eq 12, 3) := by decide +kernel
theorem dX8_isVersion_78 : decode cX8_isVersion 78 = .ok (.iload 7, 2) := by decide +kernel
theorem dX8_isVersion_80 : decode cX8_isVersion 80 = .ok (.ifCond .eq 7, 3) := by decide +kernel
theorem dX8_isVersion_83 : decode cX8_isVersion 83 = .ok (.iconst 1, 1) := by decide +kernel
theorem dX8_isVersion_84 : decode cX8_isVersion 84 = .ok (.goto 4, 3) := by decide +kernel
theorem dX8_isVersion_87 : decode cX8_isVersion 87 = .ok (.iconst 0, 1) := by decide +kernel
theorem dX8_isVersion_88 : decode cX8_isVersion 88 = .ok (.ireturn, 1) := by decide +kernel
set_option maxRecDepth 20000 in
theorem ggX8_version_X8_isIn : GoodIn wsX8_version wsX8_isIn := goodIn_r _ [10] (by decide +kernel) (by decide +kernel)
set_option maxRecDepth 20000 in
theorem gX8_version_X8_isIn : GoodIn wsX8_version (va_wsS RX8 114 yX8_isIn wsX8_isIn) := goodIn_app (goodIn_of _ (by decide +kernel)) ggX8_version_X8_isIn
set_option maxRecDepth 20000 in
theorem ggX8_version_X8_isVersion : GoodIn wsX8_version wsX8_isVersion := goodIn_r _ [14, 1, 3, 5, 15, 7, 8, 9, 10, 16, 17, 18, 40, 41, 42, 43, 44, 45, 46, 47, 48, 49, 50, 51, 52, 53, 54, 55, 56, 57, 58, 59, 60, 61, 62, 63, 64, 65, 66, 67, 68, 69, 70, 71, 72, 73] (by decide +kernel) (by decide +kernel)
set_option maxRecDepth 20000 in
theorem gX8_version_X8_isVersion : GoodIn wsX8_version (wsV RX8 145 RX8 yX8_isVersion wsX8_isVersion) := goodIn_app (goodIn_of _ (by decide +kernel)) ggX8_version_X8_isVersion
set_option maxRecDepth 20000 in
theorem ggX8_version_X8_hasRoom : GoodIn wsX8_version wsX8_hasRoom := goodIn_r _ [22, 23, 40, 41, 42, 43, 44, 45, 46, 47, 48, 49, 50, 51, 52, 53, 54, 55, 56, 57, 58, 59, 60, 61, 62, 63, 64, 65, 66, 67, 68, 69, 70, 71, 72, 73] (by decide +kernel) (by decide +kernel)
set_option maxRecDepth 20000 in
theorem gX8_version_X8_hasRoom : GoodIn wsX8_version (wsV RX8 149 RX8 yX8_hasRoom wsX8_hasRoom) := goodIn_app (goodIn_of _ (by decide +kernel)) ggX8_version_X8_hasRoom
set_option maxRecDepth 20000 in
theorem ggX8_version_X8_write : GoodIn wsX8_version wsX8_write := goodIn_r _ [27, 28, 23, 29, 30, 31, 32, 9, 33, 34, 35, 36, 37, 38, 39, 7, 8, 10, 40, 41, 42, 43, 44, 45, 46, 47, 48, 49, 50, 51, 52, 53, 54, 55, 56, 57, 58, 59, 60, 61, 62, 63, 64, 65, 66, 67, 68, 69, 70, 71, 72, 73] (by decide +kernel) (by decide +kernel)
set_option maxRecDepth 20000 in
theorem gX8_version_X8_write : GoodIn wsX8_version (wsV RX8 153 RX8 yX8_write wsX8_write) := goodIn_app (goodIn_of _ (by decide +kernel)) ggX8_version_X8_write
theorem dX8_version_0 : decode cX8_version 0 = .ok (.aload_n 0, 1) := by decide +kernel
theorem dX8_version_1 : decode cX8_version 1 = .ok (.iload_n 1, 1) := by decide +kernel
theorem dX8_version_2 : decode cX8_version 2 = .ok (.iconst 0, 1) := by decide +kernel
theorem dX8_version_3 : decode cX8_version 3 = .ok (.bipush 7, 2) := by decide +kernel
theorem dX8_version_5 : decode cX8_version 5 = .ok (.invokestatic 114, 3) := by decide +kernel
theorem dX8_version_8 : decode cX8_version 8 = .ok (.ifCond .ne 7, 3) := by decide +kernel
theorem dX8_version_11 : decode cX8_version 11 = .ok (.iconst 1, 1) := by decide +kernel
theorem dX8_version_12 : decode cX8_version 12 = .ok (.goto 45, 3) := by decide +kernel
theorem dX8_version_15 : decode cX8_version 15 = .ok (.aload_n 0, 1) := by decide +kernel
theorem dX8_version_16 : decode cX8_version 16 = .ok (.iload_n 1, 1) := by decide +kernel
theorem dX8_version_17 : decode cX8_version 17 = .ok (.iload_n 2, 1) := by decide +kernel
theorem dX8_version_18 : decode cX8_version 18 = .ok (.iload_n 3, 1) := by decide +kernel
theorem dX8_version_19 : decode cX8_version 19 = .ok (.iload 4, 2) := by decide +kernel
theorem dX8_version_21 : decode cX8_version 21 = .ok (.iload 6, 2) := by decide +kernel
theorem dX8_version_23 : decode cX8_version 23 = .ok (.invokevirtual 145, 3) := by decide +kernel
theorem dX8_version_26 : decode cX8_version 26 = .ok (.ifCond .ne 7, 3) := by decide +kernel
theorem dX8_version_29 : decode cX8_version 29 = .ok (.iconst 2, 1) := by decide +kernel
theorem dX8_version_30 : decode cX8_version 30 = .ok (.goto 27, 3) := by decide +kernel
theorem dX8_version_33 : decode cX8_version 33 = .ok (.aload_n 0, 1) := by decide +kernel
theorem dX8_version_34 : decode cX8_version 34 = .ok (.getfield 20, 3) := by decide +kernel
theorem dX8_version_37 : decode cX8_version 37 = .ok (.iload_n 1, 1) := by decide +kernel
theorem dX8_version_38 : decode cX8_version 38 = .ok (.iaload, 1) := by decide +kernel
theorem dX8_version_39 : decode cX8_version 39 = .ok (.bipush 6, 2) := by decide +kernel
theorem dX8_version_41 : decode cX8_version 41 = .ok (.if_icmp .eq 11, 3) := by decide +kernel
theorem dX8_version_44 : decode cX8_version 44 = .ok (.aload_n 0, 1) := by decide +kernel
theorem dX8_version_45 : decode cX8_version 45 = .ok (.iconst 1, 1) := by decide +kernel
theorem dX8_version_46 : decode cX8_version 46 = .ok (.invokevirtual 149, 3) := by decide +kernel
theorem dX8_version_49 : decode cX8_version 49 = .ok (.ifCond .ne 7, 3) := by decide +kernel
theorem dX8_version_52 : decode cX8_version 52 = .ok (.iconst 3, 1) := by decide +kernel
theorem dX8_version_53 : decode cX8_version 53 = .ok (.goto 4, 3) := by decide +kernel
theorem dX8_version_56 : decode cX8_version 56 = .ok (.iconst 0, 1) := by decide +kernel
theorem dX8_version_57 : decode cX8_version 57 = .ok (.putfield 100, 3) := by decide +kernel
theorem dX8_version_60 : decode cX8_version 60 = .ok (.aload_n 0, 1) := by decide +kernel
theorem dX8_version_61 : decode cX8_version 61 = .ok (.getfield 100, 3) := by decide +kernel
theorem dX8_version_64 : decode cX8_version 64 = .ok (.ifCond .le 5, 3) := by decide +kernel
theorem dX8_version_67 : decode cX8_version 67 = .ok (.iconst 0, 1) := by decide +kernel
theorem dX8_version_68 : decode cX8_version 68 = .ok (.ireturn, 1) := by decide +kernel
theorem dX8_version_69 : decode cX8_version 69 = .ok (.bipush 6, 2) := by decide +kernel
theorem dX8_version_71 : decode cX8_version 71 = .ok (.iload_n 1, 1) := by decide +kernel
theorem dX8_version_72 : decode cX8_version 72 = .ok (.imul, 1) := by decide +kernel
theorem dX8_version_73 : decode cX8_version 73 = .ok (.aload_n 0, 1) := by decide +kernel
theorem dX8_version_74 : decode cX8_version 74 = .ok (.getfield 20, 3) := by decide +kernel
theorem dX8_version_77 : decode cX8_version 77 = .ok (.iload_n 1, 1) := by decide +kernel
theorem dX8_version_78 : decode cX8_version 78 = .ok (.iaload, 1) := by decide +kernel
theorem dX8_version_79 : decode cX8_version 79 = .ok (.iadd, 1) := by decide +kernel
theorem dX8_version_80 : decode cX8_version 80 = .ok (.istore 7, 2) := by decide +kernel
theorem dX8_version_82 : decode cX8_version 82 = .ok (.aload_n 0, 1) := by decide +kernel
theorem dX8_version_83 : decode cX8_version 83 = .ok (.getfield 17, 3) := by decide +kernel
theorem dX8_version_86 : decode cX8_version 86 = .ok (.iload_n 1, 1) := by decide +kernel
theorem dX8_version_87 : decode cX8_version 87 = .ok (.iload_n 2, 1) := by decide +kernel
theorem dX8_version_88 : decode cX8_version 88 = .ok (.iastore, 1) := by decide +kernel
theorem dX8_version_89 : decode cX8_version 89 = .ok (.aload_n 0, 1) := by decide +kernel
theorem dX8_version_90 : decode cX8_version 90 = .ok (.getfield 23, 3) := by decide +kernel
theorem dX8_version_93 : decode cX8_version 93 = .ok (.iload 7, 2) := by decide +kernel
theorem dX8_version_95 : decode cX8_version 95 = .ok (.bipush 12, 2) := by decide +kernel
theorem dX8_version_97 : decode cX8_version 97 = .ok (.iload_n 3, 1) := by decide +kernel
theorem dX8_version_98 : decode cX8_version 98 = .ok (.imul, 1) := by decide +kernel
theorem dX8_version_99 : decode cX8_version 99 = .ok (.iload 4, 2) := by decide +kernel
theorem dX8_version_101 : decode cX8_version 101 = .ok (.iadd, 1) := by decide +kernel
theorem dX8_version_102 : decode cX8_version 102 = .ok (.iastore, 1) := by decide +kernel
theorem dX8_version_103 : decode cX8_version 103 = .ok (.aload_n 0, 1) := by decide +kernel
theorem dX8_version_104 : decode cX8_version 104 = .ok (.getfield 26, 3) := by decide +kernel
theorem dX8_version_107 : decode cX8_version 107 = .ok (.iload 7, 2) := by decide +kernel
theorem dX8_version_109 : decode cX8_version 109 = .ok (.iload 6, 2) := by decide +kernel
theorem dX8_version_111 : decode cX8_version 111 = .ok (.iastore, 1) := by decide +kernel
theorem dX8_version_112 : decode cX8_version 112 = .ok (.aload_n 0, 1) := by decide +kernel
theorem dX8_version_113 : decode cX8_version 113 = .ok (.getfield 29, 3) := by decide +kernel
theorem dX8_version_116 : decode cX8_version 116 = .ok (.iload 7, 2) := by decide +kernel
theorem dX8_version_118 : decode cX8_version 118 = .ok (.iload 5, 2) := by decide +kernel
theorem dX8_version_120 : decode cX8_version 120 = .ok (.bastore, 1) := by decide +kernel
theorem dX8_version_121 : decode cX8_version 121 = .ok (.aload_n 0, 1) := by decide +kernel
theorem dX8_version_122 : decode cX8_version 122 = .ok (.getfield 20, 3) := by decide +kernel
theorem dX8_version_125 : decode cX8_version 125 = .ok (.iload_n 1, 1) := by decide +kernel
theorem dX8_version_126 : decode cX8_version 126 = .ok (.dup2, 1) := by decide +kernel
theorem dX8_version_127 : decode cX8_version 127 = .ok (.iaload, 1) := by decide +kernel
theorem dX8_version_128 : decode cX8_version 128 = .ok (.iconst 1, 1) := by decide +kernel
theorem dX8_version_129 : decode cX8_version 129 = .ok (.iadd, 1) := by decide +kernel
theorem dX8_version_130 : decode cX8_version 130 = .ok (.iastore, 1) := by decide +kernel
theorem dX8_version_131 : decode cX8_version 131 = .ok (.aload_n 0, 1) := by decide +kernel
theorem dX8_version_132 : decode cX8_version 132 = .ok (.iconst 1, 1) := by decide +kernel
theorem dX8_version_133 : decode cX8_version 133 = .ok (.iload_n 1, 1) := by decide +kernel
theorem dX8_version_134 : decode cX8_version 134 = .ok (.aload_n 0, 1) := by decide +kernel
theorem dX8_version_135 : decode cX8_version 135 = .ok (.getfield 23, 3) := by decide +kernel
theorem dX8_version_138 : decode cX8_version 138 = .ok (.iload 7, 2) := by decide +kernel
theorem dX8_version_140 : decode cX8_version 140 = .ok (.iaload, 1) := by decide +kernel
theorem dX8_version_141 : decode cX8_version 141 = .ok (.iload 6, 2) := by decide +kernel
theorem dX8_version_143 : decode cX8_version 143 = .ok (.invokevirtual 153, 3) := by decide +kernel
theorem dX8_version_146 : decode cX8_version 146 = .ok (.aload_n 0, 1) := by decide +kernel
theorem dX8_version_147 : decode cX8_version 147 = .ok (.getfield 20, 3) := by decide +kernel
theorem dX8_version_150 : decode cX8_version 150 = .ok (.iload_n 1, 1) := by decide +kernel
theorem dX8_version_151 : decode cX8_version 151 = .ok (.iaload, 1) := by decide +kernel
theorem dX8_version_152 : decode cX8_version 152 = .ok (.ireturn, 1) := by decide +kernel
set_option maxRecDepth 20000 in
theorem ggX8_fiscal_X8_isIn : GoodIn wsX8_fiscal wsX8_isIn := goodIn_r _ [7] (by decide +kernel) (by decide +kernel)
set_option maxRecDepth 20000 in
theorem gX8_fiscal_X8_isIn : GoodIn wsX8_fiscal (va_wsS RX8 114 yX8_isIn wsX8_isIn) := goodIn_app (goodIn_of _ (by decide +kernel)) ggX8_fiscal_X8_isIn
theorem dX8_fiscal_0 : decode cX8_fiscal 0 = .ok (.aload_n 0, 1) := by decide +kernel
theorem dX8_fiscal_1 : decode cX8_fiscal 1 = .ok (.iload_n 1, 1) := by decide +kernel
theorem dX8_fiscal_2 : decode cX8_fiscal 2 = .ok (.iconst 1, 1) := by decide +kernel
theorem dX8_fiscal_3 : decode cX8_fiscal 3 = .ok (.bipush 12, 2) := by decide +kernel
theorem dX8_fiscal_5 : decode cX8_fiscal 5 = .ok (.invokestatic 114, 3) := by decide +kernel
theorem dX8_fiscal_8 : decode cX8_fiscal 8 = .ok (.ifCond .ne 7, 3) := by decide +kernel
theorem dX8_fiscal_11 : decode cX8_fiscal 11 = .ok (.iconst 1, 1) := by decide +kernel
theorem dX8_fiscal_12 : decode cX8_fiscal 12 = .ok (.goto 15, 3) := by decide +kernel
theorem dX8_fiscal_15 : decode cX8_fiscal 15 = .ok (.aload_n 0, 1) := by decide +kernel
theorem dX8_fiscal_16 : decode cX8_fiscal 16 = .ok (.getfield 135, 3) := by decide +kernel
theorem dX8_fiscal_19 : decode cX8_fiscal 19 = .ok (.ifCond .le 7, 3) := by decide +kernel
theorem dX8_fiscal_22 : decode cX8_fiscal 22 = .ok (.iconst 2, 1) := by decide +kernel
theorem dX8_fiscal_23 : decode cX8_fiscal 23 = .ok (.goto 4, 3) := by decide +kernel
theorem dX8_fiscal_26 : decode cX8_fiscal 26 = .ok (.iconst 0, 1) := by decide +kernel
theorem dX8_fiscal_27 : decode cX8_fiscal 27 = .ok (.putfield 100, 3) := by decide +kernel
theorem dX8_fiscal_30 : decode cX8_fiscal 30 = .ok (.aload_n 0, 1) := by decide +kernel
theorem dX8_fiscal_31 : decode cX8_fiscal 31 = .ok (.aload_n 0, 1) := by decide +kernel
theorem dX8_fiscal_32 : decode cX8_fiscal 32 = .ok (.getfield 100, 3) := by decide +kernel
theorem dX8_fiscal_35 : decode cX8_fiscal 35 = .ok (.ifCond .le 10, 3) := by decide +kernel
theorem dX8_fiscal_38 : decode cX8_fiscal 38 = .ok (.aload_n 0, 1) := by decide +kernel
theorem dX8_fiscal_39 : decode cX8_fiscal 39 = .ok (.getfield 13, 3) := by decide +kernel
theorem dX8_fiscal_42 : decode cX8_fiscal 42 = .ok (.goto 4, 3) := by decide +kernel
theorem dX8_fiscal_45 : decode cX8_fiscal 45 = .ok (.iload_n 1, 1) := by decide +kernel
theorem dX8_fiscal_46 : decode cX8_fiscal 46 = .ok (.putfield 13, 3) := by decide +kernel
theorem dX8_fiscal_49 : decode cX8_fiscal 49 = .ok (.return_, 1) := by decide +kernel
set_option maxRecDepth 20000 in
theorem ggX8_open_X8_isIn : GoodIn wsX8_open wsX8_isIn := goodIn_r _ [7] (by decide +kernel) (by decide +kernel)
set_option maxRecDepth 20000 in
theorem gX8_open_X8_isIn : GoodIn wsX8_open (va_wsS RX8 114 yX8_isIn wsX8_isIn) := goodIn_app (goodIn_of _ (by decide +kernel)) ggX8_open_X8_isIn
set_option maxRecDepth 20000 in
theorem ggX8_open_X8_hasRoom : GoodIn wsX8_open wsX8_hasRoom := goodIn_r _ [11, 12, 29, 30, 31, 32, 33, 34, 35, 36, 37, 38, 39, 40, 41, 42, 43, 44, 45, 46, 47, 48, 49, 50, 51, 52, 53, 54, 55, 56, 57, 58, 59, 60, 61, 62] (by decide +kernel) (by decide +kernel)
set_option maxRecDepth 20000 in
theorem gX8_open_X8_hasRoom : GoodIn wsX8_open (wsV RX8 149 RX8 yX8_hasRoom wsX8_hasRoom) := goodIn_app (goodIn_of _ (by decide +kernel)) ggX8_open_X8_hasRoom
set_option maxRecDepth 20000 in
theorem ggX8_open_X8_write : GoodIn wsX8_open wsX8_write := goodIn_r _ [16, 17, 12, 18, 19, 20, 21, 6, 22, 23, 24, 25, 26, 27, 28, 4, 5, 7, 29, 30, 31, 32, 33, 34, 35, 36, 37, 38, 39, 40, 41, 42, 43, 44, 45, 46, 47, 48, 49, 50, 51, 52, 53, 54, 55, 56, 57, 58, 59, 60, 61, 62] (by decide +kernel) (by decide +kernel)
set_option maxRecDepth 20000 in
theorem gX8_open_X8_write : GoodIn wsX8_open (wsV RX8 153 RX8 yX8_write wsX8_write) := goodIn_app (goodIn_of _ (by decide +kernel)) ggX8_open_X8_write
theorem dX8_open_0 : decode cX8_open 0 = .ok (.iload_n 1, 1) := by decide +kernel
theorem dX8_open_1 : decode cX8_open 1 = .ok (.iconst 0, 1) := by decide +kernel
theorem dX8_open_2 : decode cX8_open 2 = .ok (.bipush 15, 2) := by decide +kernel
theorem dX8_open_4 : decode cX8_open 4 = .ok (.invokestatic 114, 3) := by decide +kernel
theorem dX8_open_7 : decode cX8_open 7 = .ok (.ifCond .eq 17, 3) := by decide +kernel
theorem dX8_open_10 : decode cX8_open 10 = .ok (.iload_n 2, 1) := by decide +kernel
theorem dX8_open_11 : decode cX8_open 11 = .ok (.iconst 0, 1) := by decide +kernel
theorem dX8_open_12 : decode cX8_open 12 = .ok (.bipush 7, 2) := by decide +kernel
theorem dX8_open_14 : decode cX8_open 14 = .ok (.invokestatic 114, 3) := by decide +kernel
theorem dX8_open_17 : decode cX8_open 17 = .ok (.ifCond .eq 7, 3) := by decide +kernel
theorem dX8_open_20 : decode cX8_open 20 = .ok (.iconst 1, 1) := by decide +kernel
theorem dX8_open_21 : decode cX8_open 21 = .ok (.goto 4, 3) := by decide +kernel
theorem dX8_open_24 : decode cX8_open 24 = .ok (.iconst 0, 1) := by decide +kernel
theorem dX8_open_25 : decode cX8_open 25 = .ok (.istore_n 3, 1) := by decide +kernel
theorem dX8_open_26 : decode cX8_open 26 = .ok (.aload_n 0, 1) := by decide +kernel
theorem dX8_open_27 : decode cX8_open 27 = .ok (.iload_n 3, 1) := by decide +kernel
theorem dX8_open_28 : decode cX8_open 28 = .ok (.ifCond .ne 7, 3) := by decide +kernel
theorem dX8_open_31 : decode cX8_open 31 = .ok (.iconst 1, 1) := by decide +kernel
theorem dX8_open_32 : decode cX8_open 32 = .ok (.goto 35, 3) := by decide +kernel
theorem dX8_open_35 : decode cX8_open 35 = .ok (.aload_n 0, 1) := by decide +kernel
theorem dX8_open_36 : decode cX8_open 36 = .ok (.getfield 33, 3) := by decide +kernel
theorem dX8_open_39 : decode cX8_open 39 = .ok (.iload_n 1, 1) := by decide +kernel
theorem dX8_open_40 : decode cX8_open 40 = .ok (.iaload, 1) := by decide +kernel
theorem dX8_open_41 : decode cX8_open 41 = .ok (.iconst (-1), 1) := by decide +kernel
theorem dX8_open_42 : decode cX8_open 42 = .ok (.if_icmp .ne 20, 3) := by decide +kernel
theorem dX8_open_45 : decode cX8_open 45 = .ok (.aload_n 0, 1) := by decide +kernel
theorem dX8_open_46 : decode cX8_open 46 = .ok (.getfield 20, 3) := by decide +kernel
theorem dX8_open_49 : decode cX8_open 49 = .ok (.iload_n 2, 1) := by decide +kernel
theorem dX8_open_50 : decode cX8_open 50 = .ok (.iaload, 1) := by decide +kernel
theorem dX8_open_51 : decode cX8_open 51 = .ok (.ifCond .eq 11, 3) := by decide +kernel
theorem dX8_open_54 : decode cX8_open 54 = .ok (.aload_n 0, 1) := by decide +kernel
theorem dX8_open_55 : decode cX8_open 55 = .ok (.iconst 1, 1) := by decide +kernel
theorem dX8_open_56 : decode cX8_open 56 = .ok (.invokevirtual 149, 3) := by decide +kernel
theorem dX8_open_59 : decode cX8_open 59 = .ok (.ifCond .ne 7, 3) := by decide +kernel
theorem dX8_open_62 : decode cX8_open 62 = .ok (.iconst 2, 1) := by decide +kernel
theorem dX8_open_63 : decode cX8_open 63 = .ok (.goto 4, 3) := by decide +kernel
theorem dX8_open_66 : decode cX8_open 66 = .ok (.iconst 0, 1) := by decide +kernel
theorem dX8_open_67 : decode cX8_open 67 = .ok (.putfield 100, 3) := by decide +kernel
theorem dX8_open_70 : decode cX8_open 70 = .ok (.aload_n 0, 1) := by decide +kernel
theorem dX8_open_71 : decode cX8_open 71 = .ok (.getfield 100, 3) := by decide +kernel
theorem dX8_open_74 : decode cX8_open 74 = .ok (.ifCond .ne 18, 3) := by decide +kernel
theorem dX8_open_77 : decode cX8_open 77 = .ok (.aload_n 0, 1) := by decide +kernel
theorem dX8_open_78 : decode cX8_open 78 = .ok (.getfield 33, 3) := by decide +kernel
theorem dX8_open_81 : decode cX8_open 81 = .ok (.iload_n 1, 1) := by decide +kernel
theorem dX8_open_82 : decode cX8_open 82 = .ok (.iload_n 2, 1) := by decide +kernel
theorem dX8_open_83 : decode cX8_open 83 = .ok (.iastore, 1) := by decide +kernel
theorem dX8_open_84 : decode cX8_open 84 = .ok (.aload_n 0, 1) := by decide +kernel
theorem dX8_open_85 : decode cX8_open 85 = .ok (.iconst 2, 1) := by decide +kernel
theorem dX8_open_86 : decode cX8_open 86 = .ok (.iload_n 1, 1) := by decide +kernel
theorem dX8_open_87 : decode cX8_open 87 = .ok (.iload_n 2, 1) := by decide +kernel
theorem dX8_open_88 : decode cX8_open 88 = .ok (.iconst 0, 1) := by decide +kernel
theorem dX8_open_89 : decode cX8_open 89 = .ok (.invokevirtual 153, 3) := by decide +kernel
theorem dX8_open_92 : decode cX8_open 92 = .ok (.return_, 1) := by decide +kernel
set_option maxRecDepth 20000 in
theorem ggX8_noFolder_X8_isIn : GoodIn wsX8_noFolder wsX8_isIn := goodIn_r _ [5] (by decide +kernel) (by decide +kernel)
set_option maxRecDepth 20000 in
theorem gX8_noFolder_X8_isIn : GoodIn wsX8_noFolder (va_wsS RX8 114 yX8_isIn wsX8_isIn) := goodIn_app (goodIn_of _ (by decide +kernel)) ggX8_noFolder_X8_isIn
theorem dX8_noFolder_0 : decode cX8_noFolder 0 = .ok (.iload_n 1, 1) := by decide +kernel
theorem dX8_noFolder_1 : decode cX8_noFolder 1 = .ok (.iconst 0, 1) := by decide +kernel
theorem dX8_noFolder_2 : decode cX8_noFolder 2 = .ok (.bipush 15, 2) := by decide +kernel
theorem dX8_noFolder_4 : decode cX8_noFolder 4 = .ok (.invokestatic 114, 3) := by decide +kernel
theorem dX8_noFolder_7 : decode cX8_noFolder 7 = .ok (.ifCond .eq 13, 3) := by decide +kernel
theorem dX8_noFolder_10 : decode cX8_noFolder 10 = .ok (.aload_n 0, 1) := by decide +kernel
theorem dX8_noFolder_11 : decode cX8_noFolder 11 = .ok (.getfield 33, 3) := by decide +kernel
theorem dX8_noFolder_14 : decode cX8_noFolder 14 = .ok (.iload_n 1, 1) := by decide +kernel
theorem dX8_noFolder_15 : decode cX8_noFolder 15 = .ok (.iaload, 1) := by decide +kernel
theorem dX8_noFolder_16 : decode cX8_noFolder 16 = .ok (.iconst (-1), 1) := by decide +kernel
theorem dX8_noFolder_17 : decode cX8_noFolder 17 = .ok (.if_icmp .ne 7, 3) := by decide +kernel
theorem dX8_noFolder_20 : decode cX8_noFolder 20 = .ok (.iconst 1, 1) := by decide +kernel
theorem dX8_noFolder_21 : decode cX8_noFolder 21 = .ok (.goto 4, 3) := by decide +kernel
theorem dX8_noFolder_24 : decode cX8_noFolder 24 = .ok (.iconst 0, 1) := by decide +kernel
theorem dX8_noFolder_25 : decode cX8_noFolder 25 = .ok (.ireturn, 1) := by decide +kernel
set_option maxRecDepth 20000 in
theorem ggX8_close_X8_noFolder : GoodIn wsX8_close wsX8_noFolder := goodIn_r _ [8, 9, 10, 11, 7, 12, 39, 40, 41, 42, 43, 44, 45, 46, 47, 48, 49, 50, 51, 52, 53, 54, 55, 56, 57, 58, 59, 60, 61, 62, 63, 64, 65, 66, 67, 68, 69, 70, 71, 72] (by decide +kernel) (by decide +kernel)
set_option maxRecDepth 20000 in
theorem gX8_close_X8_noFolder : GoodIn wsX8_close (wsV RX8 157 RX8 yX8_noFolder wsX8_noFolder) := goodIn_app (goodIn_of _ (by decide +kernel)) ggX8_close_X8_noFolder
set_option maxRecDepth 20000 in
theorem ggX8_close_X8_isDay : GoodIn wsX8_close wsX8_isDay := goodIn_r _ [16, 17, 3, 10, 11, 7, 12, 39, 40, 41, 42, 43, 44, 45, 46, 47, 48, 49, 50, 51, 52, 53, 54, 55, 56, 57, 58, 59, 60, 61, 62, 63, 64, 65, 66, 67, 68, 69, 70, 71, 72] (by decide +kernel) (by decide +kernel)
set_option maxRecDepth 20000 in
theorem gX8_close_X8_isDay : GoodIn wsX8_close (wsV RX8 160 RX8 yX8_isDay wsX8_isDay) := goodIn_app (goodIn_of _ (by decide +kernel)) ggX8_close_X8_isDay
set_option maxRecDepth 20000 in
theorem ggX8_close_X8_hasRoom : GoodIn wsX8_close wsX8_hasRoom := goodIn_r _ [21, 22, 39, 40, 41, 42, 43, 44, 45, 46, 47, 48, 49, 50, 51, 52, 53, 54, 55, 56, 57, 58, 59, 60, 61, 62, 63, 64, 65, 66, 67, 68, 69, 70, 71, 72] (by decide +kernel) (by decide +kernel)
set_option maxRecDepth 20000 in
theorem gX8_close_X8_hasRoom : GoodIn wsX8_close (wsV RX8 149 RX8 yX8_hasRoom wsX8_hasRoom) := goodIn_app (goodIn_of _ (by decide +kernel)) ggX8_close_X8_hasRoom
set_option maxRecDepth 20000 in
theorem ggX8_close_X8_write : GoodIn wsX8_close wsX8_write := goodIn_r _ [26, 27, 22, 28, 29, 30, 31, 7, 32, 33, 34, 35, 36, 37, 38, 10, 11, 12, 39, 40, 41, 42, 43, 44, 45, 46, 47, 48, 49, 50, 51, 52, 53, 54, 55, 56, 57, 58, 59, 60, 61, 62, 63, 64, 65, 66, 67, 68, 69, 70, 71, 72] (by decide +kernel) (by decide +kernel)
set_option maxRecDepth 20000 in
theorem gX8_close_X8_write : GoodIn wsX8_close (wsV RX8 153 RX8 yX8_write wsX8_write) := goodIn_app (goodIn_of _ (by decide +kernel)) ggX8_close_X8_write
theorem dX8_close_0 : decode cX8_close 0 = .ok (.aload_n 0, 1) := by decide +kernel
theorem dX8_close_1 : decode cX8_close 1 = .ok (.aload_n 0, 1) := by decide +kernel
theorem dX8_close_2 : decode cX8_close 2 = .ok (.iload_n 1, 1) := by decide +kernel
theorem dX8_close_3 : decode cX8_close 3 = .ok (.invokevirtual 157, 3) := by decide +kernel
theorem dX8_close_6 : decode cX8_close 6 = .ok (.ifCond .eq 7, 3) := by decide +kernel
theorem dX8_close_9 : decode cX8_close 9 = .ok (.iconst 1, 1) := by decide +kernel
theorem dX8_close_10 : decode cX8_close 10 = .ok (.goto 38, 3) := by decide +kernel
theorem dX8_close_13 : decode cX8_close 13 = .ok (.aload_n 0, 1) := by decide +kernel
theorem dX8_close_14 : decode cX8_close 14 = .ok (.iload_n 2, 1) := by decide +kernel
theorem dX8_close_15 : decode cX8_close 15 = .ok (.invokevirtual 160, 3) := by decide +kernel
theorem dX8_close_18 : decode cX8_close 18 = .ok (.ifCond .ne 7, 3) := by decide +kernel
theorem dX8_close_21 : decode cX8_close 21 = .ok (.iconst 2, 1) := by decide +kernel
theorem dX8_close_22 : decode cX8_close 22 = .ok (.goto 26, 3) := by decide +kernel
theorem dX8_close_25 : decode cX8_close 25 = .ok (.aload_n 0, 1) := by decide +kernel
theorem dX8_close_26 : decode cX8_close 26 = .ok (.getfield 36, 3) := by decide +kernel
theorem dX8_close_29 : decode cX8_close 29 = .ok (.iload_n 1, 1) := by decide +kernel
theorem dX8_close_30 : decode cX8_close 30 = .ok (.iaload, 1) := by decide +kernel
theorem dX8_close_31 : decode cX8_close 31 = .ok (.iconst (-1), 1) := by decide +kernel
theorem dX8_close_32 : decode cX8_close 32 = .ok (.if_icmp .ne 11, 3) := by decide +kernel
theorem dX8_close_35 : decode cX8_close 35 = .ok (.aload_n 0, 1) := by decide +kernel
theorem dX8_close_36 : decode cX8_close 36 = .ok (.iconst 1, 1) := by decide +kernel
theorem dX8_close_37 : decode cX8_close 37 = .ok (.invokevirtual 149, 3) := by decide +kernel
theorem dX8_close_40 : decode cX8_close 40 = .ok (.ifCond .ne 7, 3) := by decide +kernel
theorem dX8_close_43 : decode cX8_close 43 = .ok (.iconst 3, 1) := by decide +kernel
theorem dX8_close_44 : decode cX8_close 44 = .ok (.goto 4, 3) := by decide +kernel
theorem dX8_close_47 : decode cX8_close 47 = .ok (.iconst 0, 1) := by decide +kernel
theorem dX8_close_48 : decode cX8_close 48 = .ok (.putfield 100, 3) := by decide +kernel
theorem dX8_close_51 : decode cX8_close 51 = .ok (.aload_n 0, 1) := by decide +kernel
theorem dX8_close_52 : decode cX8_close 52 = .ok (.getfield 100, 3) := by decide +kernel
theorem dX8_close_55 : decode cX8_close 55 = .ok (.ifCond .ne 23, 3) := by decide +kernel
theorem dX8_close_58 : decode cX8_close 58 = .ok (.aload_n 0, 1) := by decide +kernel
theorem dX8_close_59 : decode cX8_close 59 = .ok (.getfield 36, 3) := by decide +kernel
theorem dX8_close_62 : decode cX8_close 62 = .ok (.iload_n 1, 1) := by decide +kernel
theorem dX8_close_63 : decode cX8_close 63 = .ok (.iload_n 2, 1) := by decide +kernel
theorem dX8_close_64 : decode cX8_close 64 = .ok (.iastore, 1) := by decide +kernel
theorem dX8_close_65 : decode cX8_close 65 = .ok (.aload_n 0, 1) := by decide +kernel
theorem dX8_close_66 : decode cX8_close 66 = .ok (.iload_n 2, 1) := by decide +kernel
theorem dX8_close_67 : decode cX8_close 67 = .ok (.putfield 126, 3) := by decide +kernel
theorem dX8_close_70 : decode cX8_close 70 = .ok (.aload_n 0, 1) := by decide +kernel
theorem dX8_close_71 : decode cX8_close 71 = .ok (.iconst 3, 1) := by decide +kernel
theorem dX8_close_72 : decode cX8_close 72 = .ok (.iload_n 1, 1) := by decide +kernel
theorem dX8_close_73 : decode cX8_close 73 = .ok (.iload_n 2, 1) := by decide +kernel
theorem dX8_close_74 : decode cX8_close 74 = .ok (.iconst 0, 1) := by decide +kernel
theorem dX8_close_75 : decode cX8_close 75 = .ok (.invokevirtual 153, 3) := by decide +kernel
theorem dX8_close_78 : decode cX8_close 78 = .ok (.return_, 1) := by decide +kernel
set_option maxRecDepth 20000 in
theorem ggX8_left_X8_noFolder : GoodIn wsX8_left wsX8_noFolder := goodIn_r _ [8, 9, 10, 11, 7, 12, 39, 40, 41, 42, 43, 44, 45, 46, 47, 48, 49, 50, 51, 52, 53, 54, 55, 56, 57, 58, 59, 60, 61, 62, 63, 64, 65, 66, 67, 68, 69, 70, 71, 72] (by decide +kernel) (by decide +kernel)
set_option maxRecDepth 20000 in
theorem gX8_left_X8_noFolder : GoodIn wsX8_left (wsV RX8 157 RX8 yX8_noFolder wsX8_noFolder) := goodIn_app (goodIn_of _ (by decide +kernel)) ggX8_left_X8_noFolder
set_option maxRecDepth 20000 in
theorem ggX8_left_X8_isDay : GoodIn wsX8_left wsX8_isDay := goodIn_r _ [16, 17, 3, 10, 11, 7, 12, 39, 40, 41, 42, 43, 44, 45, 46, 47, 48, 49, 50, 51, 52, 53, 54, 55, 56, 57, 58, 59, 60, 61, 62, 63, 64, 65, 66, 67, 68, 69, 70, 71, 72] (by decide +kernel) (by decide +kernel)
set_option maxRecDepth 20000 in
theorem gX8_left_X8_isDay : GoodIn wsX8_left (wsV RX8 160 RX8 yX8_isDay wsX8_isDay) := goodIn_app (goodIn_of _ (by decide +kernel)) ggX8_left_X8_isDay
set_option maxRecDepth 20000 in
theorem ggX8_left_X8_hasRoom : GoodIn wsX8_left wsX8_hasRoom := goodIn_r _ [21, 22, 39, 40, 41, 42, 43, 44, 45, 46, 47, 48, 49, 50, 51, 52, 53, 54, 55, 56, 57, 58, 59, 60, 61, 62, 63, 64, 65, 66, 67, 68, 69, 70, 71, 72] (by decide +kernel) (by decide +kernel)
set_option maxRecDepth 20000 in
theorem gX8_left_X8_hasRoom : GoodIn wsX8_left (wsV RX8 149 RX8 yX8_hasRoom wsX8_hasRoom) := goodIn_app (goodIn_of _ (by decide +kernel)) ggX8_left_X8_hasRoom
set_option maxRecDepth 20000 in
theorem ggX8_left_X8_write : GoodIn wsX8_left wsX8_write := goodIn_r _ [26, 27, 22, 28, 29, 30, 31, 7, 32, 33, 34, 35, 36, 37, 38, 10, 11, 12, 39, 40, 41, 42, 43, 44, 45, 46, 47, 48, 49, 50, 51, 52, 53, 54, 55, 56, 57, 58, 59, 60, 61, 62, 63, 64, 65, 66, 67, 68, 69, 70, 71, 72] (by decide +kernel) (by decide +kernel)
set_option maxRecDepth 20000 in
theorem gX8_left_X8_write : GoodIn wsX8_left (wsV RX8 153 RX8 yX8_write wsX8_write) := goodIn_app (goodIn_of _ (by decide +kernel)) ggX8_left_X8_write
theorem dX8_left_0 : decode cX8_left 0 = .ok (.aload_n 0, 1) := by decide +kernel
theorem dX8_left_1 : decode cX8_left 1 = .ok (.aload_n 0, 1) := by decide +kernel
theorem dX8_left_2 : decode cX8_left 2 = .ok (.iload_n 1, 1) := by decide +kernel
theorem dX8_left_3 : decode cX8_left 3 = .ok (.invokevirtual 157, 3) := by decide +kernel
theorem dX8_left_6 : decode cX8_left 6 = .ok (.ifCond .eq 7, 3) := by decide +kernel
theorem dX8_left_9 : decode cX8_left 9 = .ok (.iconst 1, 1) := by decide +kernel
theorem dX8_left_10 : decode cX8_left 10 = .ok (.goto 38, 3) := by decide +kernel
theorem dX8_left_13 : decode cX8_left 13 = .ok (.aload_n 0, 1) := by decide +kernel
theorem dX8_left_14 : decode cX8_left 14 = .ok (.iload_n 2, 1) := by decide +kernel
theorem dX8_left_15 : decode cX8_left 15 = .ok (.invokevirtual 160, 3) := by decide +kernel
theorem dX8_left_18 : decode cX8_left 18 = .ok (.ifCond .ne 7, 3) := by decide +kernel
theorem dX8_left_21 : decode cX8_left 21 = .ok (.iconst 2, 1) := by decide +kernel
theorem dX8_left_22 : decode cX8_left 22 = .ok (.goto 26, 3) := by decide +kernel
theorem dX8_left_25 : decode cX8_left 25 = .ok (.aload_n 0, 1) := by decide +kernel
theorem dX8_left_26 : decode cX8_left 26 = .ok (.getfield 39, 3) := by decide +kernel
theorem dX8_left_29 : decode cX8_left 29 = .ok (.iload_n 1, 1) := by decide +kernel
theorem dX8_left_30 : decode cX8_left 30 = .ok (.iaload, 1) := by decide +kernel
theorem dX8_left_31 : decode cX8_left 31 = .ok (.iconst (-1), 1) := by decide +kernel
theorem dX8_left_32 : decode cX8_left 32 = .ok (.if_icmp .ne 11, 3) := by decide +kernel
theorem dX8_left_35 : decode cX8_left 35 = .ok (.aload_n 0, 1) := by decide +kernel
theorem dX8_left_36 : decode cX8_left 36 = .ok (.iconst 1, 1) := by decide +kernel
theorem dX8_left_37 : decode cX8_left 37 = .ok (.invokevirtual 149, 3) := by decide +kernel
theorem dX8_left_40 : decode cX8_left 40 = .ok (.ifCond .ne 7, 3) := by decide +kernel
theorem dX8_left_43 : decode cX8_left 43 = .ok (.iconst 3, 1) := by decide +kernel
theorem dX8_left_44 : decode cX8_left 44 = .ok (.goto 4, 3) := by decide +kernel
theorem dX8_left_47 : decode cX8_left 47 = .ok (.iconst 0, 1) := by decide +kernel
theorem dX8_left_48 : decode cX8_left 48 = .ok (.putfield 100, 3) := by decide +kernel
theorem dX8_left_51 : decode cX8_left 51 = .ok (.aload_n 0, 1) := by decide +kernel
theorem dX8_left_52 : decode cX8_left 52 = .ok (.getfield 100, 3) := by decide +kernel
theorem dX8_left_55 : decode cX8_left 55 = .ok (.ifCond .ne 23, 3) := by decide +kernel
theorem dX8_left_58 : decode cX8_left 58 = .ok (.aload_n 0, 1) := by decide +kernel
theorem dX8_left_59 : decode cX8_left 59 = .ok (.getfield 39, 3) := by decide +kernel
theorem dX8_left_62 : decode cX8_left 62 = .ok (.iload_n 1, 1) := by decide +kernel
theorem dX8_left_63 : decode cX8_left 63 = .ok (.iload_n 2, 1) := by decide +kernel
theorem dX8_left_64 : decode cX8_left 64 = .ok (.iastore, 1) := by decide +kernel
theorem dX8_left_65 : decode cX8_left 65 = .ok (.aload_n 0, 1) := by decide +kernel
theorem dX8_left_66 : decode cX8_left 66 = .ok (.iload_n 2, 1) := by decide +kernel
theorem dX8_left_67 : decode cX8_left 67 = .ok (.putfield 126, 3) := by decide +kernel
theorem dX8_left_70 : decode cX8_left 70 = .ok (.aload_n 0, 1) := by decide +kernel
theorem dX8_left_71 : decode cX8_left 71 = .ok (.iconst 4, 1) := by decide +kernel
theorem dX8_left_72 : decode cX8_left 72 = .ok (.iload_n 1, 1) := by decide +kernel
theorem dX8_left_73 : decode cX8_left 73 = .ok (.iload_n 2, 1) := by decide +kernel
theorem dX8_left_74 : decode cX8_left 74 = .ok (.iconst 0, 1) := by decide +kernel
theorem dX8_left_75 : decode cX8_left 75 = .ok (.invokevirtual 153, 3) := by decide +kernel
theorem dX8_left_78 : decode cX8_left 78 = .ok (.return_, 1) := by decide +kernel
set_option maxRecDepth 20000 in
theorem ggX8_file_X8_isIn : GoodIn wsX8_file wsX8_isIn := goodIn_r _ [14] (by decide +kernel) (by decide +kernel)
set_option maxRecDepth 20000 in
theorem gX8_file_X8_isIn : GoodIn wsX8_file (va_wsS RX8 114 yX8_isIn wsX8_isIn) := goodIn_app (goodIn_of _ (by decide +kernel)) ggX8_file_X8_isIn
set_option maxRecDepth 20000 in
theorem ggX8_file_X8_isDay : GoodIn wsX8_file wsX8_isDay := goodIn_r _ [18, 19, 10, 11, 12, 13, 14, 44, 45, 46, 47, 48, 49, 50, 51, 52, 53, 54, 55, 56, 57, 58, 59, 60, 61, 62, 63, 64, 65, 66, 67, 68, 69, 70, 71, 72, 73, 74, 75, 76, 77] (by decide +kernel) (by decide +kernel)
set_option maxRecDepth 20000 in
theorem gX8_file_X8_isDay : GoodIn wsX8_file (wsV RX8 160 RX8 yX8_isDay wsX8_isDay) := goodIn_app (goodIn_of _ (by decide +kernel)) ggX8_file_X8_isDay
set_option maxRecDepth 20000 in
theorem ggX8_file_X8_noFolder : GoodIn wsX8_file wsX8_noFolder := goodIn_r _ [23, 24, 11, 12, 13, 14, 44, 45, 46, 47, 48, 49, 50, 51, 52, 53, 54, 55, 56, 57, 58, 59, 60, 61, 62, 63, 64, 65, 66, 67, 68, 69, 70, 71, 72, 73, 74, 75, 76, 77] (by decide +kernel) (by decide +kernel)
set_option maxRecDepth 20000 in
theorem gX8_file_X8_noFolder : GoodIn wsX8_file (wsV RX8 157 RX8 yX8_noFolder wsX8_noFolder) := goodIn_app (goodIn_of _ (by decide +kernel)) ggX8_file_X8_noFolder
set_option maxRecDepth 20000 in
theorem ggX8_file_X8_hasRoom : GoodIn wsX8_file wsX8_hasRoom := goodIn_r _ [28, 29, 44, 45, 46, 47, 48, 49, 50, 51, 52, 53, 54, 55, 56, 57, 58, 59, 60, 61, 62, 63, 64, 65, 66, 67, 68, 69, 70, 71, 72, 73, 74, 75, 76, 77] (by decide +kernel) (by decide +kernel)
set_option maxRecDepth 20000 in
theorem gX8_file_X8_hasRoom : GoodIn wsX8_file (wsV RX8 149 RX8 yX8_hasRoom wsX8_hasRoom) := goodIn_app (goodIn_of _ (by decide +kernel)) ggX8_file_X8_hasRoom
set_option maxRecDepth 20000 in
theorem ggX8_file_X8_write : GoodIn wsX8_file wsX8_write := goodIn_r _ [33, 34, 29, 35, 36, 37, 38, 13, 39, 3, 8, 40, 41, 42, 43, 11, 12, 14, 44, 45, 46, 47, 48, 49, 50, 51, 52, 53, 54, 55, 56, 57, 58, 59, 60, 61, 62, 63, 64, 65, 66, 67, 68, 69, 70, 71, 72, 73, 74, 75, 76, 77] (by decide +kernel) (by decide +kernel)
set_option maxRecDepth 20000 in
theorem gX8_file_X8_write : GoodIn wsX8_file (wsV RX8 153 RX8 yX8_write wsX8_write) := goodIn_app (goodIn_of _ (by decide +kernel)) ggX8_file_X8_write
theorem dX8_file_0 : decode cX8_file 0 = .ok (.iload 5, 2) := by decide +kernel
theorem dX8_file_2 : decode cX8_file 2 = .ok (.iconst (-1), 1) := by decide +kernel
theorem dX8_file_3 : decode cX8_file 3 = .ok (.bipush 99, 2) := by decide +kernel
theorem dX8_file_5 : decode cX8_file 5 = .ok (.invokestatic 114, 3) := by decide +kernel
theorem dX8_file_8 : decode cX8_file 8 = .ok (.ifCond .eq 48, 3) := by decide +kernel
theorem dX8_file_11 : decode cX8_file 11 = .ok (.iload 6, 2) := by decide +kernel
theorem dX8_file_13 : decode cX8_file 13 = .ok (.iconst (-1), 1) := by decide +kernel
theorem dX8_file_14 : decode cX8_file 14 = .ok (.bipush 99, 2) := by decide +kernel
theorem dX8_file_16 : decode cX8_file 16 = .ok (.invokestatic 114, 3) := by decide +kernel
theorem dX8_file_19 : decode cX8_file 19 = .ok (.ifCond .eq 37, 3) := by decide +kernel
theorem dX8_file_22 : decode cX8_file 22 = .ok (.iload 7, 2) := by decide +kernel
theorem dX8_file_24 : decode cX8_file 24 = .ok (.iconst (-1), 1) := by decide +kernel
theorem dX8_file_25 : decode cX8_file 25 = .ok (.bipush 99, 2) := by decide +kernel
theorem dX8_file_27 : decode cX8_file 27 = .ok (.invokestatic 114, 3) := by decide +kernel
theorem dX8_file_30 : decode cX8_file 30 = .ok (.ifCond .eq 26, 3) := by decide +kernel
theorem dX8_file_33 : decode cX8_file 33 = .ok (.iload_n 2, 1) := by decide +kernel
theorem dX8_file_34 : decode cX8_file 34 = .ok (.iconst 1, 1) := by decide +kernel
theorem dX8_file_35 : decode cX8_file 35 = .ok (.ldc 163, 2) := by decide +kernel
theorem dX8_file_37 : decode cX8_file 37 = .ok (.invokestatic 114, 3) := by decide +kernel
theorem dX8_file_40 : decode cX8_file 40 = .ok (.ifCond .eq 16, 3) := by decide +kernel
theorem dX8_file_43 : decode cX8_file 43 = .ok (.aload_n 0, 1) := by decide +kernel
theorem dX8_file_44 : decode cX8_file 44 = .ok (.iload 8, 2) := by decide +kernel
theorem dX8_file_46 : decode cX8_file 46 = .ok (.invokevirtual 160, 3) := by decide +kernel
theorem dX8_file_49 : decode cX8_file 49 = .ok (.ifCond .eq 7, 3) := by decide +kernel
theorem dX8_file_52 : decode cX8_file 52 = .ok (.iconst 1, 1) := by decide +kernel
theorem dX8_file_53 : decode cX8_file 53 = .ok (.goto 4, 3) := by decide +kernel
theorem dX8_file_56 : decode cX8_file 56 = .ok (.iconst 0, 1) := by decide +kernel
theorem dX8_file_57 : decode cX8_file 57 = .ok (.istore 9, 2) := by decide +kernel
theorem dX8_file_59 : decode cX8_file 59 = .ok (.aload_n 0, 1) := by decide +kernel
theorem dX8_file_60 : decode cX8_file 60 = .ok (.aload_n 0, 1) := by decide +kernel
theorem dX8_file_61 : decode cX8_file 61 = .ok (.iload_n 1, 1) := by decide +kernel
theorem dX8_file_62 : decode cX8_file 62 = .ok (.invokevirtual 157, 3) := by decide +kernel
theorem dX8_file_65 : decode cX8_file 65 = .ok (.ifCond .eq 7, 3) := by decide +kernel
theorem dX8_file_68 : decode cX8_file 68 = .ok (.iconst 1, 1) := by decide +kernel
theorem dX8_file_69 : decode cX8_file 69 = .ok (.goto 44, 3) := by decide +kernel
theorem dX8_file_72 : decode cX8_file 72 = .ok (.iload 9, 2) := by decide +kernel
theorem dX8_file_74 : decode cX8_file 74 = .ok (.ifCond .ne 7, 3) := by decide +kernel
theorem dX8_file_77 : decode cX8_file 77 = .ok (.iconst 2, 1) := by decide +kernel
theorem dX8_file_78 : decode cX8_file 78 = .ok (.goto 35, 3) := by decide +kernel
theorem dX8_file_81 : decode cX8_file 81 = .ok (.aload_n 0, 1) := by decide +kernel
theorem dX8_file_82 : decode cX8_file 82 = .ok (.getfield 36, 3) := by decide +kernel
theorem dX8_file_85 : decode cX8_file 85 = .ok (.iload_n 1, 1) := by decide +kernel
theorem dX8_file_86 : decode cX8_file 86 = .ok (.iaload, 1) := by decide +kernel
theorem dX8_file_87 : decode cX8_file 87 = .ok (.iconst (-1), 1) := by decide +kernel
theorem dX8_file_88 : decode cX8_file 88 = .ok (.if_icmp .ne 20, 3) := by decide +kernel
theorem dX8_file_91 : decode cX8_file 91 = .ok (.aload_n 0, 1) := by decide +kernel
theorem dX8_file_92 : decode cX8_file 92 = .ok (.getfield 135, 3) := by decide +kernel
theorem dX8_file_95 : decode cX8_file 95 = .ok (.bipush 64, 2) := by decide +kernel
theorem dX8_file_97 : decode cX8_file 97 = .ok (.if_icmp .eq 11, 3) := by decide +kernel
theorem dX8_file_100 : decode cX8_file 100 = .ok (.aload_n 0, 1) := by decide +kernel
theorem dX8_file_101 : decode cX8_file 101 = .ok (.iconst 1, 1) := by decide +kernel
theorem dX8_file_102 : decode cX8_file 102 = .ok (.invokevirtual 149, 3) := by decide +kernel
theorem dX8_file_105 : decode cX8_file 105 = .ok (.ifCond .ne 7, 3) := by decide +kernel
theorem dX8_file_108 : decode cX8_file 108 = .ok (.iconst 3, 1) := by decide +kernel
theorem dX8_file_109 : decode cX8_file 109 = .ok (.goto 4, 3) := by decide +kernel
theorem dX8_file_112 : decode cX8_file 112 = .ok (.iconst 0, 1) := by decide +kernel
theorem dX8_file_113 : decode cX8_file 113 = .ok (.putfield 100, 3) := by decide +kernel
theorem dX8_file_116 : decode cX8_file 116 = .ok (.aload_n 0, 1) := by decide +kernel
theorem dX8_file_117 : decode cX8_file 117 = .ok (.getfield 100, 3) := by decide +kernel
theorem dX8_file_120 : decode cX8_file 120 = .ok (.ifCond .le 5, 3) := by decide +kernel
theorem dX8_file_123 : decode cX8_file 123 = .ok (.iconst 0, 1) := by decide +kernel
theorem dX8_file_124 : decode cX8_file 124 = .ok (.ireturn, 1) := by decide +kernel
theorem dX8_file_125 : decode cX8_file 125 = .ok (.aload_n 0, 1) := by decide +kernel
theorem dX8_file_126 : decode cX8_file 126 = .ok (.getfield 135, 3) := by decide +kernel
theorem dX8_file_129 : decode cX8_file 129 = .ok (.istore 10, 2) := by decide +kernel
theorem dX8_file_131 : decode cX8_file 131 = .ok (.aload_n 0, 1) := by decide +kernel
theorem dX8_file_132 : decode cX8_file 132 = .ok (.getfield 42, 3) := by decide +kernel
theorem dX8_file_135 : decode cX8_file 135 = .ok (.iload 10, 2) := by decide +kernel
theorem dX8_file_137 : decode cX8_file 137 = .ok (.iload_n 1, 1) := by decide +kernel
theorem dX8_file_138 : decode cX8_file 138 = .ok (.iastore, 1) := by decide +kernel
theorem dX8_file_139 : decode cX8_file 139 = .ok (.aload_n 0, 1) := by decide +kernel
theorem dX8_file_140 : decode cX8_file 140 = .ok (.getfield 45, 3) := by decide +kernel
theorem dX8_file_143 : decode cX8_file 143 = .ok (.iload 10, 2) := by decide +kernel
theorem dX8_file_145 : decode cX8_file 145 = .ok (.iload 8, 2) := by decide +kernel
theorem dX8_file_147 : decode cX8_file 147 = .ok (.iastore, 1) := by decide +kernel
theorem dX8_file_148 : decode cX8_file 148 = .ok (.aload_n 0, 1) := by decide +kernel
theorem dX8_file_149 : decode cX8_file 149 = .ok (.getfield 48, 3) := by decide +kernel
theorem dX8_file_152 : decode cX8_file 152 = .ok (.iload 10, 2) := by decide +kernel
theorem dX8_file_154 : decode cX8_file 154 = .ok (.iload_n 2, 1) := by decide +kernel
theorem dX8_file_155 : decode cX8_file 155 = .ok (.iastore, 1) := by decide +kernel
theorem dX8_file_156 : decode cX8_file 156 = .ok (.aload_n 0, 1) := by decide +kernel
theorem dX8_file_157 : decode cX8_file 157 = .ok (.getfield 51, 3) := by decide +kernel
theorem dX8_file_160 : decode cX8_file 160 = .ok (.iload 10, 2) := by decide +kernel
theorem dX8_file_162 : decode cX8_file 162 = .ok (.lload_n 3, 1) := by decide +kernel
theorem dX8_file_163 : decode cX8_file 163 = .ok (.lastore, 1) := by decide +kernel
theorem dX8_file_164 : decode cX8_file 164 = .ok (.aload_n 0, 1) := by decide +kernel
theorem dX8_file_165 : decode cX8_file 165 = .ok (.getfield 55, 3) := by decide +kernel
theorem dX8_file_168 : decode cX8_file 168 = .ok (.iconst 3, 1) := by decide +kernel
theorem dX8_file_169 : decode cX8_file 169 = .ok (.iload 10, 2) := by decide +kernel
theorem dX8_file_171 : decode cX8_file 171 = .ok (.imul, 1) := by decide +kernel
theorem dX8_file_172 : decode cX8_file 172 = .ok (.iload 5, 2) := by decide +kernel
theorem dX8_file_174 : decode cX8_file 174 = .ok (.iastore, 1) := by decide +kernel
theorem dX8_file_175 : decode cX8_file 175 = .ok (.aload_n 0, 1) := by decide +kernel
theorem dX8_file_176 : decode cX8_file 176 = .ok (.getfield 55, 3) := by decide +kernel
theorem dX8_file_179 : decode cX8_file 179 = .ok (.iconst 3, 1) := by decide +kernel
theorem dX8_file_180 : decode cX8_file 180 = .ok (.iload 10, 2) := by decide +kernel
theorem dX8_file_182 : decode cX8_file 182 = .ok (.imul, 1) := by decide +kernel
theorem dX8_file_183 : decode cX8_file 183 = .ok (.iconst 1, 1) := by decide +kernel
theorem dX8_file_184 : decode cX8_file 184 = .ok (.iadd, 1) := by decide +kernel
theorem dX8_file_185 : decode cX8_file 185 = .ok (.iload 6, 2) := by decide +kernel
theorem dX8_file_187 : decode cX8_file 187 = .ok (.iastore, 1) := by decide +kernel
theorem dX8_file_188 : decode cX8_file 188 = .ok (.aload_n 0, 1) := by decide +kernel
theorem dX8_file_189 : decode cX8_file 189 = .ok (.getfield 55, 3) := by decide +kernel
theorem dX8_file_192 : decode cX8_file 192 = .ok (.iconst 3, 1) := by decide +kernel
theorem dX8_file_193 : decode cX8_file 193 = .ok (.iload 10, 2) := by decide +kernel
theorem dX8_file_195 : decode cX8_file 195 = .ok (.imul, 1) := by decide +kernel
theorem dX8_file_196 : decode cX8_file 196 = .ok (.iconst 2, 1) := by decide +kernel
theorem dX8_file_197 : decode cX8_file 197 = .ok (.iadd, 1) := by decide +kernel
theorem dX8_file_198 : decode cX8_file 198 = .ok (.iload 7, 2) := by decide +kernel
theorem dX8_file_200 : decode cX8_file 200 = .ok (.iastore, 1) := by decide +kernel
theorem dX8_file_201 : decode cX8_file 201 = .ok (.aload_n 0, 1) := by decide +kernel
theorem dX8_file_202 : decode cX8_file 202 = .ok (.dup, 1) := by decide +kernel
theorem dX8_file_203 : decode cX8_file 203 = .ok (.getfield 135, 3) := by decide +kernel
theorem dX8_file_206 : decode cX8_file 206 = .ok (.iconst 1, 1) := by decide +kernel
theorem dX8_file_207 : decode cX8_file 207 = .ok (.iadd, 1) := by decide +kernel
theorem dX8_file_208 : decode cX8_file 208 = .ok (.putfield 135, 3) := by decide +kernel
theorem dX8_file_211 : decode cX8_file 211 = .ok (.aload_n 0, 1) := by decide +kernel
theorem dX8_file_212 : decode cX8_file 212 = .ok (.iload 8, 2) := by decide +kernel
theorem dX8_file_214 : decode cX8_file 214 = .ok (.putfield 126, 3) := by decide +kernel
theorem dX8_file_217 : decode cX8_file 217 = .ok (.aload_n 0, 1) := by decide +kernel
theorem dX8_file_218 : decode cX8_file 218 = .ok (.iconst 5, 1) := by decide +kernel
theorem dX8_file_219 : decode cX8_file 219 = .ok (.iload 10, 2) := by decide +kernel
theorem dX8_file_221 : decode cX8_file 221 = .ok (.iload_n 1, 1) := by decide +kernel
theorem dX8_file_222 : decode cX8_file 222 = .ok (.iload 8, 2) := by decide +kernel
theorem dX8_file_224 : decode cX8_file 224 = .ok (.invokevirtual 153, 3) := by decide +kernel
theorem dX8_file_227 : decode cX8_file 227 = .ok (.iload 10, 2) := by decide +kernel
theorem dX8_file_229 : decode cX8_file 229 = .ok (.ireturn, 1) := by decide +kernel
set_option maxRecDepth 20000 in
theorem ggX8_noRecord_X8_isIn : GoodIn wsX8_noRecord wsX8_isIn := goodIn_r _ [5] (by decide +kernel) (by decide +kernel)
set_option maxRecDepth 20000 in
theorem gX8_noRecord_X8_isIn : GoodIn wsX8_noRecord (va_wsS RX8 114 yX8_isIn wsX8_isIn) := goodIn_app (goodIn_of _ (by decide +kernel)) ggX8_noRecord_X8_isIn
theorem dX8_noRecord_0 : decode cX8_noRecord 0 = .ok (.iload_n 1, 1) := by decide +kernel
theorem dX8_noRecord_1 : decode cX8_noRecord 1 = .ok (.iconst 0, 1) := by decide +kernel
theorem dX8_noRecord_2 : decode cX8_noRecord 2 = .ok (.aload_n 0, 1) := by decide +kernel
theorem dX8_noRecord_3 : decode cX8_noRecord 3 = .ok (.getfield 135, 3) := by decide +kernel
theorem dX8_noRecord_6 : decode cX8_noRecord 6 = .ok (.iconst 1, 1) := by decide +kernel
theorem dX8_noRecord_7 : decode cX8_noRecord 7 = .ok (.isub, 1) := by decide +kernel
theorem dX8_noRecord_8 : decode cX8_noRecord 8 = .ok (.invokestatic 114, 3) := by decide +kernel
theorem dX8_noRecord_11 : decode cX8_noRecord 11 = .ok (.ifCond .ne 7, 3) := by decide +kernel
theorem dX8_noRecord_14 : decode cX8_noRecord 14 = .ok (.iconst 1, 1) := by decide +kernel
theorem dX8_noRecord_15 : decode cX8_noRecord 15 = .ok (.goto 4, 3) := by decide +kernel
theorem dX8_noRecord_18 : decode cX8_noRecord 18 = .ok (.iconst 0, 1) := by decide +kernel
theorem dX8_noRecord_19 : decode cX8_noRecord 19 = .ok (.ireturn, 1) := by decide +kernel
theorem dX8_hasKey_0 : decode cX8_hasKey 0 = .ok (.aload_n 0, 1) := by decide +kernel
theorem dX8_hasKey_1 : decode cX8_hasKey 1 = .ok (.getfield 55, 3) := by decide +kernel
theorem dX8_hasKey_4 : decode cX8_hasKey 4 = .ok (.iconst 3, 1) := by decide +kernel
theorem dX8_hasKey_5 : decode cX8_hasKey 5 = .ok (.iload_n 1, 1) := by decide +kernel
theorem dX8_hasKey_6 : decode cX8_hasKey 6 = .ok (.imul, 1) := by decide +kernel
theorem dX8_hasKey_7 : decode cX8_hasKey 7 = .ok (.iaload, 1) := by decide +kernel
theorem dX8_hasKey_8 : decode cX8_hasKey 8 = .ok (.iload_n 2, 1) := by decide +kernel
theorem dX8_hasKey_9 : decode cX8_hasKey 9 = .ok (.if_icmp .eq 31, 3) := by decide +kernel
theorem dX8_hasKey_12 : decode cX8_hasKey 12 = .ok (.aload_n 0, 1) := by decide +kernel
theorem dX8_hasKey_13 : decode cX8_hasKey 13 = .ok (.getfield 55, 3) := by decide +kernel
theorem dX8_hasKey_16 : decode cX8_hasKey 16 = .ok (.iconst 3, 1) := by decide +kernel
theorem dX8_hasKey_17 : decode cX8_hasKey 17 = .ok (.iload_n 1, 1) := by decide +kernel
theorem dX8_hasKey_18 : decode cX8_hasKey 18 = .ok (.imul, 1) := by decide +kernel
theorem dX8_hasKey_19 : decode cX8_hasKey 19 = .ok (.iconst 1, 1) := by decide +kernel
theorem dX8_hasKey_20 : decode cX8_hasKey 20 = .ok (.iadd, 1) := by decide +kernel
theorem dX8_hasKey_21 : decode cX8_hasKey 21 = .ok (.iaload, 1) := by decide +kernel
theorem dX8_hasKey_22 : decode cX8_hasKey 22 = .ok (.iload_n 2, 1) := by decide +kernel
theorem dX8_hasKey_23 : decode cX8_hasKey 23 = .ok (.if_icmp .eq 17, 3) := by decide +kernel
theorem dX8_hasKey_26 : decode cX8_hasKey 26 = .ok (.aload_n 0, 1) := by decide +kernel
theorem dX8_hasKey_27 : decode cX8_hasKey 27 = .ok (.getfield 55, 3) := by decide +kernel
theorem dX8_hasKey_30 : decode cX8_hasKey 30 = .ok (.iconst 3, 1) := by decide +kernel
theorem dX8_hasKey_31 : decode cX8_hasKey 31 = .ok (.iload_n 1, 1) := by decide +kernel
theorem dX8_hasKey_32 : decode cX8_hasKey 32 = .ok (.imul, 1) := by decide +kernel
theorem dX8_hasKey_33 : decode cX8_hasKey 33 = .ok (.iconst 2, 1) := by decide +kernel
theorem dX8_hasKey_34 : decode cX8_hasKey 34 = .ok (.iadd, 1) := by decide +kernel
theorem dX8_hasKey_35 : decode cX8_hasKey 35 = .ok (.iaload, 1) := by decide +kernel
theorem dX8_hasKey_36 : decode cX8_hasKey 36 = .ok (.iload_n 2, 1) := by decide +kernel
theorem dX8_hasKey_37 : decode cX8_hasKey 37 = .ok (.if_icmp .ne 7, 3) := by decide +kernel
theorem dX8_hasKey_40 : decode cX8_hasKey 40 = .ok (.iconst 1, 1) := by decide +kernel
theorem dX8_hasKey_41 : decode cX8_hasKey 41 = .ok (.goto 4, 3) := by decide +kernel
theorem dX8_hasKey_44 : decode cX8_hasKey 44 = .ok (.iconst 0, 1) := by decide +kernel
theorem dX8_hasKey_45 : decode cX8_hasKey 45 = .ok (.ireturn, 1) := by decide +kernel
set_option maxRecDepth 20000 in
theorem ggX8_holds_X8_hasKey : GoodIn wsX8_holds wsX8_hasKey := goodIn_r _ [14, 15, 19, 20, 21, 22, 23, 24, 25, 26, 27, 28, 29, 30, 31, 32, 33, 34, 35, 36, 37, 38, 39, 40, 41, 42, 43, 44, 45, 46, 47, 48, 49, 50, 51, 52] (by decide +kernel) (by decide +kernel)
set_option maxRecDepth 20000 in
theorem gX8_holds_X8_hasKey : GoodIn wsX8_holds (wsV RX8 164 RX8 yX8_hasKey wsX8_hasKey) := goodIn_app (goodIn_of _ (by decide +kernel)) ggX8_holds_X8_hasKey
set_option maxRecDepth 20000 in
theorem ggX8_holds_X8_isIn : GoodIn wsX8_holds wsX8_isIn := goodIn_r _ [18] (by decide +kernel) (by decide +kernel)
set_option maxRecDepth 20000 in
theorem gX8_holds_X8_isIn : GoodIn wsX8_holds (va_wsS RX8 114 yX8_isIn wsX8_isIn) := goodIn_app (goodIn_of _ (by decide +kernel)) ggX8_holds_X8_isIn
theorem dX8_holds_0 : decode cX8_holds 0 = .ok (.iconst 0, 1) := by decide +kernel
theorem dX8_holds_1 : decode cX8_holds 1 = .ok (.istore_n 2, 1) := by decide +kernel
theorem dX8_holds_2 : decode cX8_holds 2 = .ok (.iconst 0, 1) := by decide +kernel
theorem dX8_holds_3 : decode cX8_holds 3 = .ok (.istore_n 3, 1) := by decide +kernel
theorem dX8_holds_4 : decode cX8_holds 4 = .ok (.iload_n 3, 1) := by decide +kernel
theorem dX8_holds_5 : decode cX8_holds 5 = .ok (.bipush 8, 2) := by decide +kernel
theorem dX8_holds_7 : decode cX8_holds 7 = .ok (.if_icmp .ge 165, 3) := by decide +kernel
theorem dX8_holds_10 : decode cX8_holds 10 = .ok (.aload_n 0, 1) := by decide +kernel
theorem dX8_holds_11 : decode cX8_holds 11 = .ok (.getfield 64, 3) := by decide +kernel
theorem dX8_holds_14 : decode cX8_holds 14 = .ok (.iload_n 3, 1) := by decide +kernel
theorem dX8_holds_15 : decode cX8_holds 15 = .ok (.iaload, 1) := by decide +kernel
theorem dX8_holds_16 : decode cX8_holds 16 = .ok (.iconst (-1), 1) := by decide +kernel
theorem dX8_holds_17 : decode cX8_holds 17 = .ok (.if_icmp .eq 18, 3) := by decide +kernel
theorem dX8_holds_20 : decode cX8_holds 20 = .ok (.aload_n 0, 1) := by decide +kernel
theorem dX8_holds_21 : decode cX8_holds 21 = .ok (.getfield 64, 3) := by decide +kernel
theorem dX8_holds_24 : decode cX8_holds 24 = .ok (.iload_n 3, 1) := by decide +kernel
theorem dX8_holds_25 : decode cX8_holds 25 = .ok (.iaload, 1) := by decide +kernel
theorem dX8_holds_26 : decode cX8_holds 26 = .ok (.aload_n 0, 1) := by decide +kernel
theorem dX8_holds_27 : decode cX8_holds 27 = .ok (.getfield 42, 3) := by decide +kernel
theorem dX8_holds_30 : decode cX8_holds 30 = .ok (.iload_n 1, 1) := by decide +kernel
theorem dX8_holds_31 : decode cX8_holds 31 = .ok (.iaload, 1) := by decide +kernel
theorem dX8_holds_32 : decode cX8_holds 32 = .ok (.if_icmp .ne 7, 3) := by decide +kernel
theorem dX8_holds_35 : decode cX8_holds 35 = .ok (.iconst 1, 1) := by decide +kernel
theorem dX8_holds_36 : decode cX8_holds 36 = .ok (.goto 4, 3) := by decide +kernel
theorem dX8_holds_39 : decode cX8_holds 39 = .ok (.iconst 0, 1) := by decide +kernel
theorem dX8_holds_40 : decode cX8_holds 40 = .ok (.istore 4, 2) := by decide +kernel
theorem dX8_holds_42 : decode cX8_holds 42 = .ok (.aload_n 0, 1) := by decide +kernel
theorem dX8_holds_43 : decode cX8_holds 43 = .ok (.getfield 67, 3) := by decide +kernel
theorem dX8_holds_46 : decode cX8_holds 46 = .ok (.iload_n 3, 1) := by decide +kernel
theorem dX8_holds_47 : decode cX8_holds 47 = .ok (.iaload, 1) := by decide +kernel
theorem dX8_holds_48 : decode cX8_holds 48 = .ok (.iconst (-1), 1) := by decide +kernel
theorem dX8_holds_49 : decode cX8_holds 49 = .ok (.if_icmp .eq 23, 3) := by decide +kernel
theorem dX8_holds_52 : decode cX8_holds 52 = .ok (.aload_n 0, 1) := by decide +kernel
theorem dX8_holds_53 : decode cX8_holds 53 = .ok (.getfield 67, 3) := by decide +kernel
theorem dX8_holds_56 : decode cX8_holds 56 = .ok (.iload_n 3, 1) := by decide +kernel
theorem dX8_holds_57 : decode cX8_holds 57 = .ok (.iaload, 1) := by decide +kernel
theorem dX8_holds_58 : decode cX8_holds 58 = .ok (.aload_n 0, 1) := by decide +kernel
theorem dX8_holds_59 : decode cX8_holds 59 = .ok (.getfield 33, 3) := by decide +kernel
theorem dX8_holds_62 : decode cX8_holds 62 = .ok (.aload_n 0, 1) := by decide +kernel
theorem dX8_holds_63 : decode cX8_holds 63 = .ok (.getfield 42, 3) := by decide +kernel
theorem dX8_holds_66 : decode cX8_holds 66 = .ok (.iload_n 1, 1) := by decide +kernel
theorem dX8_holds_67 : decode cX8_holds 67 = .ok (.iaload, 1) := by decide +kernel
theorem dX8_holds_68 : decode cX8_holds 68 = .ok (.iaload, 1) := by decide +kernel
theorem dX8_holds_69 : decode cX8_holds 69 = .ok (.if_icmp .ne 7, 3) := by decide +kernel
theorem dX8_holds_72 : decode cX8_holds 72 = .ok (.iconst 1, 1) := by decide +kernel
theorem dX8_holds_73 : decode cX8_holds 73 = .ok (.goto 4, 3) := by decide +kernel
theorem dX8_holds_76 : decode cX8_holds 76 = .ok (.iconst 0, 1) := by decide +kernel
theorem dX8_holds_77 : decode cX8_holds 77 = .ok (.istore 5, 2) := by decide +kernel
theorem dX8_holds_79 : decode cX8_holds 79 = .ok (.aload_n 0, 1) := by decide +kernel
theorem dX8_holds_80 : decode cX8_holds 80 = .ok (.getfield 70, 3) := by decide +kernel
theorem dX8_holds_83 : decode cX8_holds 83 = .ok (.iload_n 3, 1) := by decide +kernel
theorem dX8_holds_84 : decode cX8_holds 84 = .ok (.iaload, 1) := by decide +kernel
theorem dX8_holds_85 : decode cX8_holds 85 = .ok (.iconst (-1), 1) := by decide +kernel
theorem dX8_holds_86 : decode cX8_holds 86 = .ok (.if_icmp .eq 17, 3) := by decide +kernel
theorem dX8_holds_89 : decode cX8_holds 89 = .ok (.aload_n 0, 1) := by decide +kernel
theorem dX8_holds_90 : decode cX8_holds 90 = .ok (.iload_n 1, 1) := by decide +kernel
theorem dX8_holds_91 : decode cX8_holds 91 = .ok (.aload_n 0, 1) := by decide +kernel
theorem dX8_holds_92 : decode cX8_holds 92 = .ok (.getfield 70, 3) := by decide +kernel
theorem dX8_holds_95 : decode cX8_holds 95 = .ok (.iload_n 3, 1) := by decide +kernel
theorem dX8_holds_96 : decode cX8_holds 96 = .ok (.iaload, 1) := by decide +kernel
theorem dX8_holds_97 : decode cX8_holds 97 = .ok (.invokevirtual 164, 3) := by decide +kernel
theorem dX8_holds_100 : decode cX8_holds 100 = .ok (.ifCond .eq 7, 3) := by decide +kernel
theorem dX8_holds_103 : decode cX8_holds 103 = .ok (.iconst 1, 1) := by decide +kernel
theorem dX8_holds_104 : decode cX8_holds 104 = .ok (.goto 4, 3) := by decide +kernel
theorem dX8_holds_107 : decode cX8_holds 107 = .ok (.iconst 0, 1) := by decide +kernel
theorem dX8_holds_108 : decode cX8_holds 108 = .ok (.istore 6, 2) := by decide +kernel
theorem dX8_holds_110 : decode cX8_holds 110 = .ok (.aload_n 0, 1) := by decide +kernel
theorem dX8_holds_111 : decode cX8_holds 111 = .ok (.getfield 61, 3) := by decide +kernel
theorem dX8_holds_114 : decode cX8_holds 114 = .ok (.iload_n 3, 1) := by decide +kernel
theorem dX8_holds_115 : decode cX8_holds 115 = .ok (.baload, 1) := by decide +kernel
theorem dX8_holds_116 : decode cX8_holds 116 = .ok (.ifCond .eq 48, 3) := by decide +kernel
theorem dX8_holds_119 : decode cX8_holds 119 = .ok (.iload 4, 2) := by decide +kernel
theorem dX8_holds_121 : decode cX8_holds 121 = .ok (.ifCond .eq 43, 3) := by decide +kernel
theorem dX8_holds_124 : decode cX8_holds 124 = .ok (.iload 5, 2) := by decide +kernel
theorem dX8_holds_126 : decode cX8_holds 126 = .ok (.ifCond .eq 38, 3) := by decide +kernel
theorem dX8_holds_129 : decode cX8_holds 129 = .ok (.iload 6, 2) := by decide +kernel
theorem dX8_holds_131 : decode cX8_holds 131 = .ok (.ifCond .eq 33, 3) := by decide +kernel
theorem dX8_holds_134 : decode cX8_holds 134 = .ok (.aload_n 0, 1) := by decide +kernel
theorem dX8_holds_135 : decode cX8_holds 135 = .ok (.getfield 45, 3) := by decide +kernel
theorem dX8_holds_138 : decode cX8_holds 138 = .ok (.iload_n 1, 1) := by decide +kernel
theorem dX8_holds_139 : decode cX8_holds 139 = .ok (.iaload, 1) := by decide +kernel
theorem dX8_holds_140 : decode cX8_holds 140 = .ok (.aload_n 0, 1) := by decide +kernel
theorem dX8_holds_141 : decode cX8_holds 141 = .ok (.getfield 73, 3) := by decide +kernel
theorem dX8_holds_144 : decode cX8_holds 144 = .ok (.iload_n 3, 1) := by decide +kernel
theorem dX8_holds_145 : decode cX8_holds 145 = .ok (.iaload, 1) := by decide +kernel
theorem dX8_holds_146 : decode cX8_holds 146 = .ok (.aload_n 0, 1) := by decide +kernel
theorem dX8_holds_147 : decode cX8_holds 147 = .ok (.getfield 76, 3) := by decide +kernel
theorem dX8_holds_150 : decode cX8_holds 150 = .ok (.iload_n 3, 1) := by decide +kernel
theorem dX8_holds_151 : decode cX8_holds 151 = .ok (.iaload, 1) := by decide +kernel
theorem dX8_holds_152 : decode cX8_holds 152 = .ok (.invokestatic 114, 3) := by decide +kernel
theorem dX8_holds_155 : decode cX8_holds 155 = .ok (.ifCond .eq 9, 3) := by decide +kernel
theorem dX8_holds_158 : decode cX8_holds 158 = .ok (.iload_n 2, 1) := by decide +kernel
theorem dX8_holds_159 : decode cX8_holds 159 = .ok (.iconst 1, 1) := by decide +kernel
theorem dX8_holds_160 : decode cX8_holds 160 = .ok (.iadd, 1) := by decide +kernel
theorem dX8_holds_161 : decode cX8_holds 161 = .ok (.goto 4, 3) := by decide +kernel
theorem dX8_holds_164 : decode cX8_holds 164 = .ok (.iload_n 2, 1) := by decide +kernel
theorem dX8_holds_165 : decode cX8_holds 165 = .ok (.istore_n 2, 1) := by decide +kernel
theorem dX8_holds_166 : decode cX8_holds 166 = .ok (.iinc 3 1, 3) := by decide +kernel
theorem dX8_holds_169 : decode cX8_holds 169 = .ok (.goto (-165), 3) := by decide +kernel
theorem dX8_holds_172 : decode cX8_holds 172 = .ok (.iload_n 2, 1) := by decide +kernel
theorem dX8_holds_173 : decode cX8_holds 173 = .ok (.ireturn, 1) := by decide +kernel
theorem dX8_termFor_0 : decode cX8_termFor 0 = .ok (.iconst 0, 1) := by decide +kernel
theorem dX8_termFor_1 : decode cX8_termFor 1 = .ok (.istore_n 3, 1) := by decide +kernel
theorem dX8_termFor_2 : decode cX8_termFor 2 = .ok (.iconst 0, 1) := by decide +kernel
theorem dX8_termFor_3 : decode cX8_termFor 3 = .ok (.istore 4, 2) := by decide +kernel
theorem dX8_termFor_5 : decode cX8_termFor 5 = .ok (.iload 4, 2) := by decide +kernel
theorem dX8_termFor_7 : decode cX8_termFor 7 = .ok (.aload_n 0, 1) := by decide +kernel
theorem dX8_termFor_8 : decode cX8_termFor 8 = .ok (.getfield 20, 3) := by decide +kernel
theorem dX8_termFor_11 : decode cX8_termFor 11 = .ok (.iload_n 1, 1) := by decide +kernel
theorem dX8_termFor_12 : decode cX8_termFor 12 = .ok (.iaload, 1) := by decide +kernel
theorem dX8_termFor_13 : decode cX8_termFor 13 = .ok (.if_icmp .ge 32, 3) := by decide +kernel
theorem dX8_termFor_16 : decode cX8_termFor 16 = .ok (.aload_n 0, 1) := by decide +kernel
theorem dX8_termFor_17 : decode cX8_termFor 17 = .ok (.getfield 26, 3) := by decide +kernel
theorem dX8_termFor_20 : decode cX8_termFor 20 = .ok (.bipush 6, 2) := by decide +kernel
theorem dX8_termFor_22 : decode cX8_termFor 22 = .ok (.iload_n 1, 1) := by decide +kernel
theorem dX8_termFor_23 : decode cX8_termFor 23 = .ok (.imul, 1) := by decide +kernel
theorem dX8_termFor_24 : decode cX8_termFor 24 = .ok (.iload 4, 2) := by decide +kernel
theorem dX8_termFor_26 : decode cX8_termFor 26 = .ok (.iadd, 1) := by decide +kernel
theorem dX8_termFor_27 : decode cX8_termFor 27 = .ok (.iaload, 1) := by decide +kernel
theorem dX8_termFor_28 : decode cX8_termFor 28 = .ok (.iload_n 2, 1) := by decide +kernel
theorem dX8_termFor_29 : decode cX8_termFor 29 = .ok (.if_icmp .gt 8, 3) := by decide +kernel
theorem dX8_termFor_32 : decode cX8_termFor 32 = .ok (.iload 4, 2) := by decide +kernel
theorem dX8_termFor_34 : decode cX8_termFor 34 = .ok (.goto 4, 3) := by decide +kernel
theorem dX8_termFor_37 : decode cX8_termFor 37 = .ok (.iload_n 3, 1) := by decide +kernel
theorem dX8_termFor_38 : decode cX8_termFor 38 = .ok (.istore_n 3, 1) := by decide +kernel
theorem dX8_termFor_39 : decode cX8_termFor 39 = .ok (.iinc 4 1, 3) := by decide +kernel
theorem dX8_termFor_42 : decode cX8_termFor 42 = .ok (.goto (-37), 3) := by decide +kernel
theorem dX8_termFor_45 : decode cX8_termFor 45 = .ok (.iload_n 3, 1) := by decide +kernel
theorem dX8_termFor_46 : decode cX8_termFor 46 = .ok (.istore 4, 2) := by decide +kernel
theorem dX8_termFor_48 : decode cX8_termFor 48 = .ok (.iload_n 3, 1) := by decide +kernel
theorem dX8_termFor_49 : decode cX8_termFor 49 = .ok (.iconst 1, 1) := by decide +kernel
theorem dX8_termFor_50 : decode cX8_termFor 50 = .ok (.iadd, 1) := by decide +kernel
theorem dX8_termFor_51 : decode cX8_termFor 51 = .ok (.istore 5, 2) := by decide +kernel
theorem dX8_termFor_53 : decode cX8_termFor 53 = .ok (.iload 5, 2) := by decide +kernel
theorem dX8_termFor_55 : decode cX8_termFor 55 = .ok (.aload_n 0, 1) := by decide +kernel
theorem dX8_termFor_56 : decode cX8_termFor 56 = .ok (.getfield 20, 3) := by decide +kernel
theorem dX8_termFor_59 : decode cX8_termFor 59 = .ok (.iload_n 1, 1) := by decide +kernel
theorem dX8_termFor_60 : decode cX8_termFor 60 = .ok (.iaload, 1) := by decide +kernel
theorem dX8_termFor_61 : decode cX8_termFor 61 = .ok (.if_icmp .ge 33, 3) := by decide +kernel
theorem dX8_termFor_64 : decode cX8_termFor 64 = .ok (.aload_n 0, 1) := by decide +kernel
theorem dX8_termFor_65 : decode cX8_termFor 65 = .ok (.getfield 29, 3) := by decide +kernel
theorem dX8_termFor_68 : decode cX8_termFor 68 = .ok (.bipush 6, 2) := by decide +kernel
theorem dX8_termFor_70 : decode cX8_termFor 70 = .ok (.iload_n 1, 1) := by decide +kernel
theorem dX8_termFor_71 : decode cX8_termFor 71 = .ok (.imul, 1) := by decide +kernel
theorem dX8_termFor_72 : decode cX8_termFor 72 = .ok (.iload 5, 2) := by decide +kernel
theorem dX8_termFor_74 : decode cX8_termFor 74 = .ok (.iadd, 1) := by decide +kernel
theorem dX8_termFor_75 : decode cX8_termFor 75 = .ok (.baload, 1) := by decide +kernel
theorem dX8_termFor_76 : decode cX8_termFor 76 = .ok (.ifCond .eq 8, 3) := by decide +kernel
theorem dX8_termFor_79 : decode cX8_termFor 79 = .ok (.iload 5, 2) := by decide +kernel
theorem dX8_termFor_81 : decode cX8_termFor 81 = .ok (.goto 5, 3) := by decide +kernel
theorem dX8_termFor_84 : decode cX8_termFor 84 = .ok (.iload 4, 2) := by decide +kernel
theorem dX8_termFor_86 : decode cX8_termFor 86 = .ok (.istore 4, 2) := by decide +kernel
theorem dX8_termFor_88 : decode cX8_termFor 88 = .ok (.iinc 5 1, 3) := by decide +kernel
theorem dX8_termFor_91 : decode cX8_termFor 91 = .ok (.goto (-38), 3) := by decide +kernel
theorem dX8_termFor_94 : decode cX8_termFor 94 = .ok (.aload_n 0, 1) := by decide +kernel
theorem dX8_termFor_95 : decode cX8_termFor 95 = .ok (.getfield 23, 3) := by decide +kernel
theorem dX8_termFor_98 : decode cX8_termFor 98 = .ok (.bipush 6, 2) := by decide +kernel
theorem dX8_termFor_100 : decode cX8_termFor 100 = .ok (.iload_n 1, 1) := by decide +kernel
theorem dX8_termFor_101 : decode cX8_termFor 101 = .ok (.imul, 1) := by decide +kernel
theorem dX8_termFor_102 : decode cX8_termFor 102 = .ok (.iload 4, 2) := by decide +kernel
theorem dX8_termFor_104 : decode cX8_termFor 104 = .ok (.iadd, 1) := by decide +kernel
theorem dX8_termFor_105 : decode cX8_termFor 105 = .ok (.iaload, 1) := by decide +kernel
theorem dX8_termFor_106 : decode cX8_termFor 106 = .ok (.ireturn, 1) := by decide +kernel
set_option maxRecDepth 20000 in
theorem ggX8_dueOf_X8_fiscalEnd : GoodIn wsX8_dueOf wsX8_fiscalEnd := goodIn_r _ [11, 12, 13, 14, 10, 15, 16, 17, 18, 19, 20, 21, 33, 34, 35, 36, 37, 38, 39, 40, 41, 42, 43, 44, 45, 46, 47, 48, 49, 50, 51, 52, 53, 54, 55, 56, 57, 58, 59, 60, 61, 62, 63, 64, 65, 66] (by decide +kernel) (by decide +kernel)
set_option maxRecDepth 20000 in
theorem gX8_dueOf_X8_fiscalEnd : GoodIn wsX8_dueOf (wsV RX8 167 RX8 yX8_fiscalEnd wsX8_fiscalEnd) := goodIn_app (goodIn_of _ (by decide +kernel)) ggX8_dueOf_X8_fiscalEnd
set_option maxRecDepth 20000 in
theorem ggX8_dueOf_X8_termFor : GoodIn wsX8_dueOf wsX8_termFor := goodIn_r _ [25, 26, 27, 28, 29, 33, 34, 35, 36, 37, 38, 39, 40, 41, 42, 43, 44, 45, 46, 47, 48, 49, 50, 51, 52, 53, 54, 55, 56, 57, 58, 59, 60, 61, 62, 63, 64, 65, 66] (by decide +kernel) (by decide +kernel)
set_option maxRecDepth 20000 in
theorem gX8_dueOf_X8_termFor : GoodIn wsX8_dueOf (wsV RX8 170 RX8 yX8_termFor wsX8_termFor) := goodIn_app (goodIn_of _ (by decide +kernel)) ggX8_dueOf_X8_termFor
set_option maxRecDepth 20000 in
theorem ggX8_dueOf_X8_add : GoodIn wsX8_dueOf wsX8_add := goodIn_r _ [32, 13, 14, 10, 15, 16, 17, 18, 19, 20, 21] (by decide +kernel) (by decide +kernel)
set_option maxRecDepth 20000 in
theorem gX8_dueOf_X8_add : GoodIn wsX8_dueOf (va_wsS RX8 123 yX8_add wsX8_add) := goodIn_app (goodIn_of _ (by decide +kernel)) ggX8_dueOf_X8_add
theorem dX8_dueOf_0 : decode cX8_dueOf 0 = .ok (.aload_n 0, 1) := by decide +kernel
theorem dX8_dueOf_1 : decode cX8_dueOf 1 = .ok (.getfield 42, 3) := by decide +kernel
theorem dX8_dueOf_4 : decode cX8_dueOf 4 = .ok (.iload_n 1, 1) := by decide +kernel
theorem dX8_dueOf_5 : decode cX8_dueOf 5 = .ok (.iaload, 1) := by decide +kernel
theorem dX8_dueOf_6 : decode cX8_dueOf 6 = .ok (.istore_n 2, 1) := by decide +kernel
theorem dX8_dueOf_7 : decode cX8_dueOf 7 = .ok (.aload_n 0, 1) := by decide +kernel
theorem dX8_dueOf_8 : decode cX8_dueOf 8 = .ok (.getfield 33, 3) := by decide +kernel
theorem dX8_dueOf_11 : decode cX8_dueOf 11 = .ok (.iload_n 2, 1) := by decide +kernel
theorem dX8_dueOf_12 : decode cX8_dueOf 12 = .ok (.iaload, 1) := by decide +kernel
theorem dX8_dueOf_13 : decode cX8_dueOf 13 = .ok (.istore_n 3, 1) := by decide +kernel
theorem dX8_dueOf_14 : decode cX8_dueOf 14 = .ok (.aload_n 0, 1) := by decide +kernel
theorem dX8_dueOf_15 : decode cX8_dueOf 15 = .ok (.getfield 17, 3) := by decide +kernel
theorem dX8_dueOf_18 : decode cX8_dueOf 18 = .ok (.iload_n 3, 1) := by decide +kernel
theorem dX8_dueOf_19 : decode cX8_dueOf 19 = .ok (.iaload, 1) := by decide +kernel
theorem dX8_dueOf_20 : decode cX8_dueOf 20 = .ok (.ifCond .ne 12, 3) := by decide +kernel
theorem dX8_dueOf_23 : decode cX8_dueOf 23 = .ok (.aload_n 0, 1) := by decide +kernel
theorem dX8_dueOf_24 : decode cX8_dueOf 24 = .ok (.getfield 45, 3) := by decide +kernel
theorem dX8_dueOf_27 : decode cX8_dueOf 27 = .ok (.iload_n 1, 1) := by decide +kernel
theorem dX8_dueOf_28 : decode cX8_dueOf 28 = .ok (.iaload, 1) := by decide +kernel
theorem dX8_dueOf_29 : decode cX8_dueOf 29 = .ok (.goto 51, 3) := by decide +kernel
theorem dX8_dueOf_32 : decode cX8_dueOf 32 = .ok (.aload_n 0, 1) := by decide +kernel
theorem dX8_dueOf_33 : decode cX8_dueOf 33 = .ok (.getfield 17, 3) := by decide +kernel
theorem dX8_dueOf_36 : decode cX8_dueOf 36 = .ok (.iload_n 3, 1) := by decide +kernel
theorem dX8_dueOf_37 : decode cX8_dueOf 37 = .ok (.iaload, 1) := by decide +kernel
theorem dX8_dueOf_38 : decode cX8_dueOf 38 = .ok (.iconst 1, 1) := by decide +kernel
theorem dX8_dueOf_39 : decode cX8_dueOf 39 = .ok (.if_icmp .ne 12, 3) := by decide +kernel
theorem dX8_dueOf_42 : decode cX8_dueOf 42 = .ok (.aload_n 0, 1) := by decide +kernel
theorem dX8_dueOf_43 : decode cX8_dueOf 43 = .ok (.getfield 36, 3) := by decide +kernel
theorem dX8_dueOf_46 : decode cX8_dueOf 46 = .ok (.iload_n 2, 1) := by decide +kernel
theorem dX8_dueOf_47 : decode cX8_dueOf 47 = .ok (.iaload, 1) := by decide +kernel
theorem dX8_dueOf_48 : decode cX8_dueOf 48 = .ok (.goto 32, 3) := by decide +kernel
theorem dX8_dueOf_51 : decode cX8_dueOf 51 = .ok (.aload_n 0, 1) := by decide +kernel
theorem dX8_dueOf_52 : decode cX8_dueOf 52 = .ok (.getfield 17, 3) := by decide +kernel
theorem dX8_dueOf_55 : decode cX8_dueOf 55 = .ok (.iload_n 3, 1) := by decide +kernel
theorem dX8_dueOf_56 : decode cX8_dueOf 56 = .ok (.iaload, 1) := by decide +kernel
theorem dX8_dueOf_57 : decode cX8_dueOf 57 = .ok (.iconst 2, 1) := by decide +kernel
theorem dX8_dueOf_58 : decode cX8_dueOf 58 = .ok (.if_icmp .ne 12, 3) := by decide +kernel
theorem dX8_dueOf_61 : decode cX8_dueOf 61 = .ok (.aload_n 0, 1) := by decide +kernel
theorem dX8_dueOf_62 : decode cX8_dueOf 62 = .ok (.getfield 39, 3) := by decide +kernel
theorem dX8_dueOf_65 : decode cX8_dueOf 65 = .ok (.iload_n 2, 1) := by decide +kernel
theorem dX8_dueOf_66 : decode cX8_dueOf 66 = .ok (.iaload, 1) := by decide +kernel
theorem dX8_dueOf_67 : decode cX8_dueOf 67 = .ok (.goto 13, 3) := by decide +kernel
theorem dX8_dueOf_70 : decode cX8_dueOf 70 = .ok (.aload_n 0, 1) := by decide +kernel
theorem dX8_dueOf_71 : decode cX8_dueOf 71 = .ok (.aload_n 0, 1) := by decide +kernel
theorem dX8_dueOf_72 : decode cX8_dueOf 72 = .ok (.getfield 45, 3) := by decide +kernel
theorem dX8_dueOf_75 : decode cX8_dueOf 75 = .ok (.iload_n 1, 1) := by decide +kernel
theorem dX8_dueOf_76 : decode cX8_dueOf 76 = .ok (.iaload, 1) := by decide +kernel
theorem dX8_dueOf_77 : decode cX8_dueOf 77 = .ok (.invokevirtual 167, 3) := by decide +kernel
theorem dX8_dueOf_80 : decode cX8_dueOf 80 = .ok (.istore 4, 2) := by decide +kernel
theorem dX8_dueOf_82 : decode cX8_dueOf 82 = .ok (.iload 4, 2) := by decide +kernel
theorem dX8_dueOf_84 : decode cX8_dueOf 84 = .ok (.iconst (-1), 1) := by decide +kernel
theorem dX8_dueOf_85 : decode cX8_dueOf 85 = .ok (.if_icmp .ne 7, 3) := by decide +kernel
theorem dX8_dueOf_88 : decode cX8_dueOf 88 = .ok (.iconst (-1), 1) := by decide +kernel
theorem dX8_dueOf_89 : decode cX8_dueOf 89 = .ok (.goto 15, 3) := by decide +kernel
theorem dX8_dueOf_92 : decode cX8_dueOf 92 = .ok (.iload 4, 2) := by decide +kernel
theorem dX8_dueOf_94 : decode cX8_dueOf 94 = .ok (.aload_n 0, 1) := by decide +kernel
theorem dX8_dueOf_95 : decode cX8_dueOf 95 = .ok (.iload_n 3, 1) := by decide +kernel
theorem dX8_dueOf_96 : decode cX8_dueOf 96 = .ok (.iload 4, 2) := by decide +kernel
theorem dX8_dueOf_98 : decode cX8_dueOf 98 = .ok (.invokevirtual 170, 3) := by decide +kernel
theorem dX8_dueOf_101 : decode cX8_dueOf 101 = .ok (.invokestatic 123, 3) := by decide +kernel
theorem dX8_dueOf_104 : decode cX8_dueOf 104 = .ok (.ireturn, 1) := by decide +kernel
set_option maxRecDepth 20000 in
theorem ggX8_mayGo_X8_dueOf : GoodIn wsX8_mayGo wsX8_dueOf := goodIn_r _ [6, 7, 8, 9, 10, 11, 12, 13, 14, 15, 5, 16, 17, 18, 19, 20, 21, 22, 23, 24, 25, 26, 27, 28, 29, 30, 31, 32, 33, 34, 35, 36, 37, 56, 57, 58, 59, 60, 61, 62, 63, 64, 65, 66, 67, 68, 69, 70, 71, 72, 73, 74, 75, 76, 77, 78, 79, 80, 81, 82, 83, 84, 85, 86, 87, 88, 89] (by decide +kernel) (by decide +kernel)
set_option maxRecDepth 20000 in
theorem gX8_mayGo_X8_dueOf : GoodIn wsX8_mayGo (wsV RX8 173 RX8 yX8_dueOf wsX8_dueOf) := goodIn_app (goodIn_of _ (by decide +kernel)) ggX8_mayGo_X8_dueOf
set_option maxRecDepth 20000 in
theorem ggX8_mayGo_X8_holds : GoodIn wsX8_mayGo wsX8_holds := goodIn_r _ [41, 42, 7, 43, 8, 44, 45, 10, 46, 47, 48, 49, 50, 5, 51, 52, 53, 54, 55, 56, 57, 58, 59, 60, 61, 62, 63, 64, 65, 66, 67, 68, 69, 70, 71, 72, 73, 74, 75, 76, 77, 78, 79, 80, 81, 82, 83, 84, 85, 86, 87, 88, 89] (by decide +kernel) (by decide +kernel)
set_option maxRecDepth 20000 in
theorem gX8_mayGo_X8_holds : GoodIn wsX8_mayGo (wsV RX8 176 RX8 yX8_holds wsX8_holds) := goodIn_app (goodIn_of _ (by decide +kernel)) ggX8_mayGo_X8_holds
theorem dX8_mayGo_0 : decode cX8_mayGo 0 = .ok (.aload_n 0, 1) := by decide +kernel
theorem dX8_mayGo_1 : decode cX8_mayGo 1 = .ok (.iload_n 1, 1) := by decide +kernel
theorem dX8_mayGo_2 : decode cX8_mayGo 2 = .ok (.invokevirtual 173, 3) := by decide +kernel
theorem dX8_mayGo_5 : decode cX8_mayGo 5 = .ok (.istore_n 3, 1) := by decide +kernel
theorem dX8_mayGo_6 : decode cX8_mayGo 6 = .ok (.aload_n 0, 1) := by decide +kernel
theorem dX8_mayGo_7 : decode cX8_mayGo 7 = .ok (.getfield 58, 3) := by decide +kernel
theorem dX8_mayGo_10 : decode cX8_mayGo 10 = .ok (.iload_n 1, 1) := by decide +kernel
theorem dX8_mayGo_11 : decode cX8_mayGo 11 = .ok (.baload, 1) := by decide +kernel
theorem dX8_mayGo_12 : decode cX8_mayGo 12 = .ok (.ifCond .ne 25, 3) := by decide +kernel
theorem dX8_mayGo_15 : decode cX8_mayGo 15 = .ok (.iload_n 3, 1) := by decide +kernel
theorem dX8_mayGo_16 : decode cX8_mayGo 16 = .ok (.iconst (-1), 1) := by decide +kernel
theorem dX8_mayGo_17 : decode cX8_mayGo 17 = .ok (.if_icmp .eq 20, 3) := by decide +kernel
theorem dX8_mayGo_20 : decode cX8_mayGo 20 = .ok (.iload_n 3, 1) := by decide +kernel
theorem dX8_mayGo_21 : decode cX8_mayGo 21 = .ok (.iload_n 2, 1) := by decide +kernel
theorem dX8_mayGo_22 : decode cX8_mayGo 22 = .ok (.if_icmp .gt 15, 3) := by decide +kernel
theorem dX8_mayGo_25 : decode cX8_mayGo 25 = .ok (.aload_n 0, 1) := by decide +kernel
theorem dX8_mayGo_26 : decode cX8_mayGo 26 = .ok (.iload_n 1, 1) := by decide +kernel
theorem dX8_mayGo_27 : decode cX8_mayGo 27 = .ok (.invokevirtual 176, 3) := by decide +kernel
theorem dX8_mayGo_30 : decode cX8_mayGo 30 = .ok (.ifCond .ne 7, 3) := by decide +kernel
theorem dX8_mayGo_33 : decode cX8_mayGo 33 = .ok (.iconst 1, 1) := by decide +kernel
theorem dX8_mayGo_34 : decode cX8_mayGo 34 = .ok (.goto 4, 3) := by decide +kernel
theorem dX8_mayGo_37 : decode cX8_mayGo 37 = .ok (.iconst 0, 1) := by decide +kernel
theorem dX8_mayGo_38 : decode cX8_mayGo 38 = .ok (.ireturn, 1) := by decide +kernel
set_option maxRecDepth 20000 in
theorem ggX8_covered_X8_noRecord : GoodIn wsX8_covered wsX8_noRecord := goodIn_r _ [6, 7, 8, 9, 5, 10, 29, 30, 31, 32, 33, 34, 35, 36, 37, 38, 39, 40, 41, 42, 43, 44, 45, 46, 47, 48, 49, 50, 51, 52, 53, 54, 55, 56, 57, 58, 59, 60, 61, 62] (by decide +kernel) (by decide +kernel)
set_option maxRecDepth 20000 in
theorem gX8_covered_X8_noRecord : GoodIn wsX8_covered (wsV RX8 179 RX8 yX8_noRecord wsX8_noRecord) := goodIn_app (goodIn_of _ (by decide +kernel)) ggX8_covered_X8_noRecord
set_option maxRecDepth 20000 in
theorem ggX8_covered_X8_holds : GoodIn wsX8_covered wsX8_holds := goodIn_r _ [14, 15, 16, 17, 18, 19, 20, 21, 22, 23, 24, 25, 26, 5, 27, 28, 8, 9, 10, 29, 30, 31, 32, 33, 34, 35, 36, 37, 38, 39, 40, 41, 42, 43, 44, 45, 46, 47, 48, 49, 50, 51, 52, 53, 54, 55, 56, 57, 58, 59, 60, 61, 62] (by decide +kernel) (by decide +kernel)
set_option maxRecDepth 20000 in
theorem gX8_covered_X8_holds : GoodIn wsX8_covered (wsV RX8 176 RX8 yX8_holds wsX8_holds) := goodIn_app (goodIn_of _ (by decide +kernel)) ggX8_covered_X8_holds
theorem dX8_covered_0 : decode cX8_covered 0 = .ok (.aload_n 0, 1) := by decide +kernel
theorem dX8_covered_1 : decode cX8_covered 1 = .ok (.aload_n 0, 1) := by decide +kernel
theorem dX8_covered_2 : decode cX8_covered 2 = .ok (.iload_n 1, 1) := by decide +kernel
theorem dX8_covered_3 : decode cX8_covered 3 = .ok (.invokevirtual 179, 3) := by decide +kernel
theorem dX8_covered_6 : decode cX8_covered 6 = .ok (.ifCond .eq 7, 3) := by decide +kernel
theorem dX8_covered_9 : decode cX8_covered 9 = .ok (.iconst 1, 1) := by decide +kernel
theorem dX8_covered_10 : decode cX8_covered 10 = .ok (.goto 4, 3) := by decide +kernel
theorem dX8_covered_13 : decode cX8_covered 13 = .ok (.iconst 0, 1) := by decide +kernel
theorem dX8_covered_14 : decode cX8_covered 14 = .ok (.putfield 100, 3) := by decide +kernel
theorem dX8_covered_17 : decode cX8_covered 17 = .ok (.aload_n 0, 1) := by decide +kernel
theorem dX8_covered_18 : decode cX8_covered 18 = .ok (.getfield 100, 3) := by decide +kernel
theorem dX8_covered_21 : decode cX8_covered 21 = .ok (.ifCond .le 7, 3) := by decide +kernel
theorem dX8_covered_24 : decode cX8_covered 24 = .ok (.iconst 0, 1) := by decide +kernel
theorem dX8_covered_25 : decode cX8_covered 25 = .ok (.goto 8, 3) := by decide +kernel
theorem dX8_covered_28 : decode cX8_covered 28 = .ok (.aload_n 0, 1) := by decide +kernel
theorem dX8_covered_29 : decode cX8_covered 29 = .ok (.iload_n 1, 1) := by decide +kernel
theorem dX8_covered_30 : decode cX8_covered 30 = .ok (.invokevirtual 176, 3) := by decide +kernel
theorem dX8_covered_33 : decode cX8_covered 33 = .ok (.ireturn, 1) := by decide +kernel
set_option maxRecDepth 20000 in
theorem ggX8_due_X8_noRecord : GoodIn wsX8_due wsX8_noRecord := goodIn_r _ [6, 7, 8, 9, 5, 10, 46, 47, 48, 49, 50, 51, 52, 53, 54, 55, 56, 57, 58, 59, 60, 61, 62, 63, 64, 65, 66, 67, 68, 69, 70, 71, 72, 73, 74, 75, 76, 77, 78, 79] (by decide +kernel) (by decide +kernel)
set_option maxRecDepth 20000 in
theorem gX8_due_X8_noRecord : GoodIn wsX8_due (wsV RX8 179 RX8 yX8_noRecord wsX8_noRecord) := goodIn_app (goodIn_of _ (by decide +kernel)) ggX8_due_X8_noRecord
set_option maxRecDepth 20000 in
theorem ggX8_due_X8_dueOf : GoodIn wsX8_due wsX8_dueOf := goodIn_r _ [14, 15, 16, 17, 18, 19, 20, 21, 22, 23, 5, 24, 25, 26, 27, 28, 29, 30, 31, 32, 33, 34, 35, 36, 37, 38, 39, 40, 41, 42, 43, 44, 45, 46, 47, 48, 49, 50, 51, 52, 53, 54, 55, 56, 57, 58, 59, 60, 61, 62, 63, 64, 65, 66, 67, 68, 69, 70, 71, 72, 73, 74, 75, 76, 77, 78, 79] (by decide +kernel) (by decide +kernel)
set_option maxRecDepth 20000 in
theorem gX8_due_X8_dueOf : GoodIn wsX8_due (wsV RX8 173 RX8 yX8_dueOf wsX8_dueOf) := goodIn_app (goodIn_of _ (by decide +kernel)) ggX8_due_X8_dueOf
theorem dX8_due_0 : decode cX8_due 0 = .ok (.aload_n 0, 1) := by decide +kernel
theorem dX8_due_1 : decode cX8_due 1 = .ok (.aload_n 0, 1) := by decide +kernel
theorem dX8_due_2 : decode cX8_due 2 = .ok (.iload_n 1, 1) := by decide +kernel
theorem dX8_due_3 : decode cX8_due 3 = .ok (.invokevirtual 179, 3) := by decide +kernel
theorem dX8_due_6 : decode cX8_due 6 = .ok (.ifCond .eq 7, 3) := by decide +kernel
theorem dX8_due_9 : decode cX8_due 9 = .ok (.iconst 1, 1) := by decide +kernel
theorem dX8_due_10 : decode cX8_due 10 = .ok (.goto 4, 3) := by decide +kernel
theorem dX8_due_13 : decode cX8_due 13 = .ok (.iconst 0, 1) := by decide +kernel
theorem dX8_due_14 : decode cX8_due 14 = .ok (.putfield 100, 3) := by decide +kernel
theorem dX8_due_17 : decode cX8_due 17 = .ok (.aload_n 0, 1) := by decide +kernel
theorem dX8_due_18 : decode cX8_due 18 = .ok (.getfield 100, 3) := by decide +kernel
theorem dX8_due_21 : decode cX8_due 21 = .ok (.ifCond .le 7, 3) := by decide +kernel
theorem dX8_due_24 : decode cX8_due 24 = .ok (.iconst 0, 1) := by decide +kernel
theorem dX8_due_25 : decode cX8_due 25 = .ok (.goto 8, 3) := by decide +kernel
theorem dX8_due_28 : decode cX8_due 28 = .ok (.aload_n 0, 1) := by decide +kernel
theorem dX8_due_29 : decode cX8_due 29 = .ok (.iload_n 1, 1) := by decide +kernel
theorem dX8_due_30 : decode cX8_due 30 = .ok (.invokevirtual 173, 3) := by decide +kernel
theorem dX8_due_33 : decode cX8_due 33 = .ok (.ireturn, 1) := by decide +kernel
set_option maxRecDepth 20000 in
theorem ggX8_keyCount_X8_hasKey : GoodIn wsX8_keyCount wsX8_hasKey := goodIn_r _ [5, 6, 7, 8, 9, 10, 11, 12, 13, 14, 15, 16, 17, 18, 19, 20, 21, 22, 23, 24, 25, 26, 27, 28, 29, 30, 31, 32, 33, 34, 35, 36, 37, 38, 39, 40] (by decide +kernel) (by decide +kernel)
set_option maxRecDepth 20000 in
theorem gX8_keyCount_X8_hasKey : GoodIn wsX8_keyCount (wsV RX8 164 RX8 yX8_hasKey wsX8_hasKey) := goodIn_app (goodIn_of _ (by decide +kernel)) ggX8_keyCount_X8_hasKey
theorem dX8_keyCount_0 : decode cX8_keyCount 0 = .ok (.iconst 0, 1) := by decide +kernel
theorem dX8_keyCount_1 : decode cX8_keyCount 1 = .ok (.istore_n 2, 1) := by decide +kernel
theorem dX8_keyCount_2 : decode cX8_keyCount 2 = .ok (.iconst 0, 1) := by decide +kernel
theorem dX8_keyCount_3 : decode cX8_keyCount 3 = .ok (.istore_n 3, 1) := by decide +kernel
theorem dX8_keyCount_4 : decode cX8_keyCount 4 = .ok (.iload_n 3, 1) := by decide +kernel
theorem dX8_keyCount_5 : decode cX8_keyCount 5 = .ok (.bipush 99, 2) := by decide +kernel
theorem dX8_keyCount_7 : decode cX8_keyCount 7 = .ok (.if_icmp .gt 26, 3) := by decide +kernel
theorem dX8_keyCount_10 : decode cX8_keyCount 10 = .ok (.aload_n 0, 1) := by decide +kernel
theorem dX8_keyCount_11 : decode cX8_keyCount 11 = .ok (.iload_n 1, 1) := by decide +kernel
theorem dX8_keyCount_12 : decode cX8_keyCount 12 = .ok (.iload_n 3, 1) := by decide +kernel
theorem dX8_keyCount_13 : decode cX8_keyCount 13 = .ok (.invokevirtual 164, 3) := by decide +kernel
theorem dX8_keyCount_16 : decode cX8_keyCount 16 = .ok (.ifCond .eq 9, 3) := by decide +kernel
theorem dX8_keyCount_19 : decode cX8_keyCount 19 = .ok (.iload_n 2, 1) := by decide +kernel
theorem dX8_keyCount_20 : decode cX8_keyCount 20 = .ok (.iconst 1, 1) := by decide +kernel
theorem dX8_keyCount_21 : decode cX8_keyCount 21 = .ok (.iadd, 1) := by decide +kernel
theorem dX8_keyCount_22 : decode cX8_keyCount 22 = .ok (.goto 4, 3) := by decide +kernel
theorem dX8_keyCount_25 : decode cX8_keyCount 25 = .ok (.iload_n 2, 1) := by decide +kernel
theorem dX8_keyCount_26 : decode cX8_keyCount 26 = .ok (.istore_n 2, 1) := by decide +kernel
theorem dX8_keyCount_27 : decode cX8_keyCount 27 = .ok (.iinc 3 1, 3) := by decide +kernel
theorem dX8_keyCount_30 : decode cX8_keyCount 30 = .ok (.goto (-26), 3) := by decide +kernel
theorem dX8_keyCount_33 : decode cX8_keyCount 33 = .ok (.iload_n 2, 1) := by decide +kernel
theorem dX8_keyCount_34 : decode cX8_keyCount 34 = .ok (.ireturn, 1) := by decide +kernel
set_option maxRecDepth 20000 in
theorem ggX8_record_X8_noRecord : GoodIn wsX8_record wsX8_noRecord := goodIn_r _ [10, 11, 12, 13, 9, 14, 24, 25, 26, 27, 28, 29, 30, 31, 32, 33, 34, 35, 36, 37, 38, 39, 40, 41, 42, 43, 44, 45, 46, 47, 48, 49, 50, 51, 52, 53, 54, 55, 56, 57] (by decide +kernel) (by decide +kernel)
set_option maxRecDepth 20000 in
theorem gX8_record_X8_noRecord : GoodIn wsX8_record (wsV RX8 179 RX8 yX8_noRecord wsX8_noRecord) := goodIn_app (goodIn_of _ (by decide +kernel)) ggX8_record_X8_noRecord
set_option maxRecDepth 20000 in
theorem ggX8_record_X8_isIn : GoodIn wsX8_record wsX8_isIn := goodIn_r _ [14] (by decide +kernel) (by decide +kernel)
set_option maxRecDepth 20000 in
theorem gX8_record_X8_isIn : GoodIn wsX8_record (va_wsS RX8 114 yX8_isIn wsX8_isIn) := goodIn_app (goodIn_of _ (by decide +kernel)) ggX8_record_X8_isIn
set_option maxRecDepth 20000 in
theorem ggX8_record_X8_keyCount : GoodIn wsX8_record wsX8_keyCount := goodIn_r _ [18, 19, 20, 21, 9, 22, 23, 24, 25, 26, 27, 28, 29, 30, 31, 32, 33, 34, 35, 36, 37, 38, 39, 40, 41, 42, 43, 44, 45, 46, 47, 48, 49, 50, 51, 52, 53, 54, 55, 56, 57] (by decide +kernel) (by decide +kernel)
set_option maxRecDepth 20000 in
theorem gX8_record_X8_keyCount : GoodIn wsX8_record (wsV RX8 182 RX8 yX8_keyCount wsX8_keyCount) := goodIn_app (goodIn_of _ (by decide +kernel)) ggX8_record_X8_keyCount
theorem dX8_record_0 : decode cX8_record 0 = .ok (.aload_n 0, 1) := by decide +kernel
theorem dX8_record_1 : decode cX8_record 1 = .ok (.aload_n 0, 1) := by decide +kernel
theorem dX8_record_2 : decode cX8_record 2 = .ok (.iload_n 1, 1) := by decide +kernel
theorem dX8_record_3 : decode cX8_record 3 = .ok (.invokevirtual 179, 3) := by decide +kernel
theorem dX8_record_6 : decode cX8_record 6 = .ok (.ifCond .eq 7, 3) := by decide +kernel
theorem dX8_record_9 : decode cX8_record 9 = .ok (.iconst 1, 1) := by decide +kernel
theorem dX8_record_10 : decode cX8_record 10 = .ok (.goto 17, 3) := by decide +kernel
theorem dX8_record_13 : decode cX8_record 13 = .ok (.iload_n 2, 1) := by decide +kernel
theorem dX8_record_14 : decode cX8_record 14 = .ok (.iconst 0, 1) := by decide +kernel
theorem dX8_record_15 : decode cX8_record 15 = .ok (.iconst 4, 1) := by decide +kernel
theorem dX8_record_16 : decode cX8_record 16 = .ok (.invokestatic 114, 3) := by decide +kernel
theorem dX8_record_19 : decode cX8_record 19 = .ok (.ifCond .ne 7, 3) := by decide +kernel
theorem dX8_record_22 : decode cX8_record 22 = .ok (.iconst 2, 1) := by decide +kernel
theorem dX8_record_23 : decode cX8_record 23 = .ok (.goto 4, 3) := by decide +kernel
theorem dX8_record_26 : decode cX8_record 26 = .ok (.iconst 0, 1) := by decide +kernel
theorem dX8_record_27 : decode cX8_record 27 = .ok (.putfield 100, 3) := by decide +kernel
theorem dX8_record_30 : decode cX8_record 30 = .ok (.aload_n 0, 1) := by decide +kernel
theorem dX8_record_31 : decode cX8_record 31 = .ok (.getfield 100, 3) := by decide +kernel
theorem dX8_record_34 : decode cX8_record 34 = .ok (.ifCond .le 5, 3) := by decide +kernel
theorem dX8_record_37 : decode cX8_record 37 = .ok (.iconst 0, 1) := by decide +kernel
theorem dX8_record_38 : decode cX8_record 38 = .ok (.ireturn, 1) := by decide +kernel
theorem dX8_record_39 : decode cX8_record 39 = .ok (.iload_n 2, 1) := by decide +kernel
theorem dX8_record_40 : decode cX8_record 40 = .ok (.ifCond .ne 12, 3) := by decide +kernel
theorem dX8_record_43 : decode cX8_record 43 = .ok (.aload_n 0, 1) := by decide +kernel
theorem dX8_record_44 : decode cX8_record 44 = .ok (.getfield 42, 3) := by decide +kernel
theorem dX8_record_47 : decode cX8_record 47 = .ok (.iload_n 1, 1) := by decide +kernel
theorem dX8_record_48 : decode cX8_record 48 = .ok (.iaload, 1) := by decide +kernel
theorem dX8_record_49 : decode cX8_record 49 = .ok (.goto 58, 3) := by decide +kernel
theorem dX8_record_52 : decode cX8_record 52 = .ok (.iload_n 2, 1) := by decide +kernel
theorem dX8_record_53 : decode cX8_record 53 = .ok (.iconst 1, 1) := by decide +kernel
theorem dX8_record_54 : decode cX8_record 54 = .ok (.if_icmp .ne 12, 3) := by decide +kernel
theorem dX8_record_57 : decode cX8_record 57 = .ok (.aload_n 0, 1) := by decide +kernel
theorem dX8_record_58 : decode cX8_record 58 = .ok (.getfield 45, 3) := by decide +kernel
theorem dX8_record_61 : decode cX8_record 61 = .ok (.iload_n 1, 1) := by decide +kernel
theorem dX8_record_62 : decode cX8_record 62 = .ok (.iaload, 1) := by decide +kernel
theorem dX8_record_63 : decode cX8_record 63 = .ok (.goto 44, 3) := by decide +kernel
theorem dX8_record_66 : decode cX8_record 66 = .ok (.iload_n 2, 1) := by decide +kernel
theorem dX8_record_67 : decode cX8_record 67 = .ok (.iconst 2, 1) := by decide +kernel
theorem dX8_record_68 : decode cX8_record 68 = .ok (.if_icmp .ne 12, 3) := by decide +kernel
theorem dX8_record_71 : decode cX8_record 71 = .ok (.aload_n 0, 1) := by decide +kernel
theorem dX8_record_72 : decode cX8_record 72 = .ok (.getfield 48, 3) := by decide +kernel
theorem dX8_record_75 : decode cX8_record 75 = .ok (.iload_n 1, 1) := by decide +kernel
theorem dX8_record_76 : decode cX8_record 76 = .ok (.iaload, 1) := by decide +kernel
theorem dX8_record_77 : decode cX8_record 77 = .ok (.goto 30, 3) := by decide +kernel
theorem dX8_record_80 : decode cX8_record 80 = .ok (.iload_n 2, 1) := by decide +kernel
theorem dX8_record_81 : decode cX8_record 81 = .ok (.iconst 3, 1) := by decide +kernel
theorem dX8_record_82 : decode cX8_record 82 = .ok (.if_icmp .ne 20, 3) := by decide +kernel
theorem dX8_record_85 : decode cX8_record 85 = .ok (.aload_n 0, 1) := by decide +kernel
theorem dX8_record_86 : decode cX8_record 86 = .ok (.getfield 58, 3) := by decide +kernel
theorem dX8_record_89 : decode cX8_record 89 = .ok (.iload_n 1, 1) := by decide +kernel
theorem dX8_record_90 : decode cX8_record 90 = .ok (.baload, 1) := by decide +kernel
theorem dX8_record_91 : decode cX8_record 91 = .ok (.ifCond .eq 7, 3) := by decide +kernel
theorem dX8_record_94 : decode cX8_record 94 = .ok (.iconst 1, 1) := by decide +kernel
theorem dX8_record_95 : decode cX8_record 95 = .ok (.goto 12, 3) := by decide +kernel
theorem dX8_record_98 : decode cX8_record 98 = .ok (.iconst 0, 1) := by decide +kernel
theorem dX8_record_99 : decode cX8_record 99 = .ok (.goto 8, 3) := by decide +kernel
theorem dX8_record_102 : decode cX8_record 102 = .ok (.aload_n 0, 1) := by decide +kernel
theorem dX8_record_103 : decode cX8_record 103 = .ok (.iload_n 1, 1) := by decide +kernel
theorem dX8_record_104 : decode cX8_record 104 = .ok (.invokevirtual 182, 3) := by decide +kernel
theorem dX8_record_107 : decode cX8_record 107 = .ok (.ireturn, 1) := by decide +kernel
set_option maxRecDepth 20000 in
theorem ggX8_read_X8_noRecord : GoodIn wsX8_read wsX8_noRecord := goodIn_r _ [8, 9, 10, 11, 7, 12, 13, 14, 15, 16, 17, 18, 19, 20, 21, 22, 23, 24, 25, 26, 27, 28, 29, 30, 31, 32, 33, 34, 35, 36, 37, 38, 39, 40, 41, 42, 43, 44, 45, 46] (by decide +kernel) (by decide +kernel)
set_option maxRecDepth 20000 in
theorem gX8_read_X8_noRecord : GoodIn wsX8_read (wsV RX8 179 RX8 yX8_noRecord wsX8_noRecord) := goodIn_app (goodIn_of _ (by decide +kernel)) ggX8_read_X8_noRecord
theorem dX8_read_0 : decode cX8_read 0 = .ok (.aload_n 0, 1) := by decide +kernel
theorem dX8_read_1 : decode cX8_read 1 = .ok (.aload_n 0, 1) := by decide +kernel
theorem dX8_read_2 : decode cX8_read 2 = .ok (.iload_n 1, 1) := by decide +kernel
theorem dX8_read_3 : decode cX8_read 3 = .ok (.invokevirtual 179, 3) := by decide +kernel
theorem dX8_read_6 : decode cX8_read 6 = .ok (.ifCond .eq 7, 3) := by decide +kernel
theorem dX8_read_9 : decode cX8_read 9 = .ok (.iconst 1, 1) := by decide +kernel
theorem dX8_read_10 : decode cX8_read 10 = .ok (.goto 17, 3) := by decide +kernel
theorem dX8_read_13 : decode cX8_read 13 = .ok (.aload_n 0, 1) := by decide +kernel
theorem dX8_read_14 : decode cX8_read 14 = .ok (.getfield 58, 3) := by decide +kernel
theorem dX8_read_17 : decode cX8_read 17 = .ok (.iload_n 1, 1) := by decide +kernel
theorem dX8_read_18 : decode cX8_read 18 = .ok (.baload, 1) := by decide +kernel
theorem dX8_read_19 : decode cX8_read 19 = .ok (.ifCond .eq 7, 3) := by decide +kernel
theorem dX8_read_22 : decode cX8_read 22 = .ok (.iconst 2, 1) := by decide +kernel
theorem dX8_read_23 : decode cX8_read 23 = .ok (.goto 4, 3) := by decide +kernel
theorem dX8_read_26 : decode cX8_read 26 = .ok (.iconst 0, 1) := by decide +kernel
theorem dX8_read_27 : decode cX8_read 27 = .ok (.putfield 100, 3) := by decide +kernel
theorem dX8_read_30 : decode cX8_read 30 = .ok (.aload_n 0, 1) := by decide +kernel
theorem dX8_read_31 : decode cX8_read 31 = .ok (.getfield 100, 3) := by decide +kernel
theorem dX8_read_34 : decode cX8_read 34 = .ok (.ifCond .le 7, 3) := by decide +kernel
theorem dX8_read_37 : decode cX8_read 37 = .ok (.lconst 0, 1) := by decide +kernel
theorem dX8_read_38 : decode cX8_read 38 = .ok (.goto 9, 3) := by decide +kernel
theorem dX8_read_41 : decode cX8_read 41 = .ok (.aload_n 0, 1) := by decide +kernel
theorem dX8_read_42 : decode cX8_read 42 = .ok (.getfield 51, 3) := by decide +kernel
theorem dX8_read_45 : decode cX8_read 45 = .ok (.iload_n 1, 1) := by decide +kernel
theorem dX8_read_46 : decode cX8_read 46 = .ok (.laload, 1) := by decide +kernel
theorem dX8_read_47 : decode cX8_read 47 = .ok (.lreturn, 1) := by decide +kernel
set_option maxRecDepth 20000 in
theorem ggX8_find_X8_isIn : GoodIn wsX8_find wsX8_isIn := goodIn_r _ [8] (by decide +kernel) (by decide +kernel)
set_option maxRecDepth 20000 in
theorem gX8_find_X8_isIn : GoodIn wsX8_find (va_wsS RX8 114 yX8_isIn wsX8_isIn) := goodIn_app (goodIn_of _ (by decide +kernel)) ggX8_find_X8_isIn
set_option maxRecDepth 20000 in
theorem ggX8_find_X8_hasKey : GoodIn wsX8_find wsX8_hasKey := goodIn_r _ [12, 13, 14, 15, 16, 17, 18, 19, 20, 21, 22, 23, 24, 25, 26, 27, 28, 29, 30, 31, 32, 33, 34, 35, 36, 37, 38, 39, 40, 41, 42, 43, 44, 45, 46, 47] (by decide +kernel) (by decide +kernel)
set_option maxRecDepth 20000 in
theorem gX8_find_X8_hasKey : GoodIn wsX8_find (wsV RX8 164 RX8 yX8_hasKey wsX8_hasKey) := goodIn_app (goodIn_of _ (by decide +kernel)) ggX8_find_X8_hasKey
theorem dX8_find_0 : decode cX8_find 0 = .ok (.aload_n 0, 1) := by decide +kernel
theorem dX8_find_1 : decode cX8_find 1 = .ok (.iload_n 1, 1) := by decide +kernel
theorem dX8_find_2 : decode cX8_find 2 = .ok (.iconst 0, 1) := by decide +kernel
theorem dX8_find_3 : decode cX8_find 3 = .ok (.bipush 99, 2) := by decide +kernel
theorem dX8_find_5 : decode cX8_find 5 = .ok (.invokestatic 114, 3) := by decide +kernel
theorem dX8_find_8 : decode cX8_find 8 = .ok (.ifCond .eq 12, 3) := by decide +kernel
theorem dX8_find_11 : decode cX8_find 11 = .ok (.iload 4, 2) := by decide +kernel
theorem dX8_find_13 : decode cX8_find 13 = .ok (.ifCond .lt 7, 3) := by decide +kernel
theorem dX8_find_16 : decode cX8_find 16 = .ok (.iconst 0, 1) := by decide +kernel
theorem dX8_find_17 : decode cX8_find 17 = .ok (.goto 4, 3) := by decide +kernel
theorem dX8_find_20 : decode cX8_find 20 = .ok (.iconst 1, 1) := by decide +kernel
theorem dX8_find_21 : decode cX8_find 21 = .ok (.putfield 100, 3) := by decide +kernel
theorem dX8_find_24 : decode cX8_find 24 = .ok (.iload 4, 2) := by decide +kernel
theorem dX8_find_26 : decode cX8_find 26 = .ok (.istore 5, 2) := by decide +kernel
theorem dX8_find_28 : decode cX8_find 28 = .ok (.iconst 0, 1) := by decide +kernel
theorem dX8_find_29 : decode cX8_find 29 = .ok (.istore 6, 2) := by decide +kernel
theorem dX8_find_31 : decode cX8_find 31 = .ok (.iload 6, 2) := by decide +kernel
theorem dX8_find_33 : decode cX8_find 33 = .ok (.aload_n 0, 1) := by decide +kernel
theorem dX8_find_34 : decode cX8_find 34 = .ok (.getfield 135, 3) := by decide +kernel
theorem dX8_find_37 : decode cX8_find 37 = .ok (.if_icmp .ge 62, 3) := by decide +kernel
theorem dX8_find_40 : decode cX8_find 40 = .ok (.aload_n 0, 1) := by decide +kernel
theorem dX8_find_41 : decode cX8_find 41 = .ok (.getfield 100, 3) := by decide +kernel
theorem dX8_find_44 : decode cX8_find 44 = .ok (.ifCond .ne 55, 3) := by decide +kernel
theorem dX8_find_47 : decode cX8_find 47 = .ok (.aload_n 0, 1) := by decide +kernel
theorem dX8_find_48 : decode cX8_find 48 = .ok (.getfield 58, 3) := by decide +kernel
theorem dX8_find_51 : decode cX8_find 51 = .ok (.iload 6, 2) := by decide +kernel
theorem dX8_find_53 : decode cX8_find 53 = .ok (.baload, 1) := by decide +kernel
theorem dX8_find_54 : decode cX8_find 54 = .ok (.ifCond .ne 39, 3) := by decide +kernel
theorem dX8_find_57 : decode cX8_find 57 = .ok (.aload_n 0, 1) := by decide +kernel
theorem dX8_find_58 : decode cX8_find 58 = .ok (.iload 6, 2) := by decide +kernel
theorem dX8_find_60 : decode cX8_find 60 = .ok (.iload_n 1, 1) := by decide +kernel
theorem dX8_find_61 : decode cX8_find 61 = .ok (.invokevirtual 164, 3) := by decide +kernel
theorem dX8_find_64 : decode cX8_find 64 = .ok (.ifCond .eq 29, 3) := by decide +kernel
theorem dX8_find_67 : decode cX8_find 67 = .ok (.aload_n 0, 1) := by decide +kernel
theorem dX8_find_68 : decode cX8_find 68 = .ok (.getfield 45, 3) := by decide +kernel
theorem dX8_find_71 : decode cX8_find 71 = .ok (.iload 6, 2) := by decide +kernel
theorem dX8_find_73 : decode cX8_find 73 = .ok (.iaload, 1) := by decide +kernel
theorem dX8_find_74 : decode cX8_find 74 = .ok (.iload_n 2, 1) := by decide +kernel
theorem dX8_find_75 : decode cX8_find 75 = .ok (.iload_n 3, 1) := by decide +kernel
theorem dX8_find_76 : decode cX8_find 76 = .ok (.invokestatic 114, 3) := by decide +kernel
theorem dX8_find_79 : decode cX8_find 79 = .ok (.ifCond .eq 14, 3) := by decide +kernel
theorem dX8_find_82 : decode cX8_find 82 = .ok (.iload 5, 2) := by decide +kernel
theorem dX8_find_84 : decode cX8_find 84 = .ok (.ifCond .ne 6, 3) := by decide +kernel
theorem dX8_find_87 : decode cX8_find 87 = .ok (.iload 6, 2) := by decide +kernel
theorem dX8_find_89 : decode cX8_find 89 = .ok (.ireturn, 1) := by decide +kernel
theorem dX8_find_90 : decode cX8_find 90 = .ok (.iinc 5 (-1), 3) := by decide +kernel
theorem dX8_find_93 : decode cX8_find 93 = .ok (.iinc 6 1, 3) := by decide +kernel
theorem dX8_find_96 : decode cX8_find 96 = .ok (.goto (-65), 3) := by decide +kernel
theorem dX8_find_99 : decode cX8_find 99 = .ok (.aload_n 0, 1) := by decide +kernel
theorem dX8_find_100 : decode cX8_find 100 = .ok (.getfield 100, 3) := by decide +kernel
theorem dX8_find_103 : decode cX8_find 103 = .ok (.ifCond .le 7, 3) := by decide +kernel
theorem dX8_find_106 : decode cX8_find 106 = .ok (.iconst 0, 1) := by decide +kernel
theorem dX8_find_107 : decode cX8_find 107 = .ok (.goto 4, 3) := by decide +kernel
theorem dX8_find_110 : decode cX8_find 110 = .ok (.iconst (-1), 1) := by decide +kernel
theorem dX8_find_111 : decode cX8_find 111 = .ok (.ireturn, 1) := by decide +kernel
set_option maxRecDepth 20000 in
theorem ggX8_hold_X8_isIn : GoodIn wsX8_hold wsX8_isIn := goodIn_r _ [12] (by decide +kernel) (by decide +kernel)
set_option maxRecDepth 20000 in
theorem gX8_hold_X8_isIn : GoodIn wsX8_hold (va_wsS RX8 114 yX8_isIn wsX8_isIn) := goodIn_app (goodIn_of _ (by decide +kernel)) ggX8_hold_X8_isIn
set_option maxRecDepth 20000 in
theorem ggX8_hold_X8_hasRoom : GoodIn wsX8_hold wsX8_hasRoom := goodIn_r _ [16, 17, 34, 35, 36, 37, 38, 39, 40, 41, 42, 43, 44, 45, 46, 47, 48, 49, 50, 51, 52, 53, 54, 55, 56, 57, 58, 59, 60, 61, 62, 63, 64, 65, 66, 67] (by decide +kernel) (by decide +kernel)
set_option maxRecDepth 20000 in
theorem gX8_hold_X8_hasRoom : GoodIn wsX8_hold (wsV RX8 149 RX8 yX8_hasRoom wsX8_hasRoom) := goodIn_app (goodIn_of _ (by decide +kernel)) ggX8_hold_X8_hasRoom
set_option maxRecDepth 20000 in
theorem ggX8_hold_X8_write : GoodIn wsX8_hold wsX8_write := goodIn_r _ [21, 22, 17, 23, 24, 25, 26, 11, 27, 28, 29, 30, 31, 32, 33, 9, 10, 12, 34, 35, 36, 37, 38, 39, 40, 41, 42, 43, 44, 45, 46, 47, 48, 49, 50, 51, 52, 53, 54, 55, 56, 57, 58, 59, 60, 61, 62, 63, 64, 65, 66, 67] (by decide +kernel) (by decide +kernel)
set_option maxRecDepth 20000 in
theorem gX8_hold_X8_write : GoodIn wsX8_hold (wsV RX8 153 RX8 yX8_write wsX8_write) := goodIn_app (goodIn_of _ (by decide +kernel)) ggX8_hold_X8_write
theorem dX8_hold_0 : decode cX8_hold 0 = .ok (.iload_n 1, 1) := by decide +kernel
theorem dX8_hold_1 : decode cX8_hold 1 = .ok (.iconst 0, 1) := by decide +kernel
theorem dX8_hold_2 : decode cX8_hold 2 = .ok (.bipush 7, 2) := by decide +kernel
theorem dX8_hold_4 : decode cX8_hold 4 = .ok (.invokestatic 114, 3) := by decide +kernel
theorem dX8_hold_7 : decode cX8_hold 7 = .ok (.ifCond .eq 27, 3) := by decide +kernel
theorem dX8_hold_10 : decode cX8_hold 10 = .ok (.iload_n 2, 1) := by decide +kernel
theorem dX8_hold_11 : decode cX8_hold 11 = .ok (.iconst (-1), 1) := by decide +kernel
theorem dX8_hold_12 : decode cX8_hold 12 = .ok (.bipush 15, 2) := by decide +kernel
theorem dX8_hold_14 : decode cX8_hold 14 = .ok (.invokestatic 114, 3) := by decide +kernel
theorem dX8_hold_17 : decode cX8_hold 17 = .ok (.ifCond .eq 17, 3) := by decide +kernel
theorem dX8_hold_20 : decode cX8_hold 20 = .ok (.iload_n 3, 1) := by decide +kernel
theorem dX8_hold_21 : decode cX8_hold 21 = .ok (.iconst (-1), 1) := by decide +kernel
theorem dX8_hold_22 : decode cX8_hold 22 = .ok (.bipush 7, 2) := by decide +kernel
theorem dX8_hold_24 : decode cX8_hold 24 = .ok (.invokestatic 114, 3) := by decide +kernel
theorem dX8_hold_27 : decode cX8_hold 27 = .ok (.ifCond .eq 7, 3) := by decide +kernel
theorem dX8_hold_30 : decode cX8_hold 30 = .ok (.iconst 1, 1) := by decide +kernel
theorem dX8_hold_31 : decode cX8_hold 31 = .ok (.goto 4, 3) := by decide +kernel
theorem dX8_hold_34 : decode cX8_hold 34 = .ok (.iconst 0, 1) := by decide +kernel
theorem dX8_hold_35 : decode cX8_hold 35 = .ok (.istore 7, 2) := by decide +kernel
theorem dX8_hold_37 : decode cX8_hold 37 = .ok (.iload 4, 2) := by decide +kernel
theorem dX8_hold_39 : decode cX8_hold 39 = .ok (.iconst (-1), 1) := by decide +kernel
theorem dX8_hold_40 : decode cX8_hold 40 = .ok (.bipush 99, 2) := by decide +kernel
theorem dX8_hold_42 : decode cX8_hold 42 = .ok (.invokestatic 114, 3) := by decide +kernel
theorem dX8_hold_45 : decode cX8_hold 45 = .ok (.ifCond .eq 36, 3) := by decide +kernel
theorem dX8_hold_48 : decode cX8_hold 48 = .ok (.iload 5, 2) := by decide +kernel
theorem dX8_hold_50 : decode cX8_hold 50 = .ok (.iconst 0, 1) := by decide +kernel
theorem dX8_hold_51 : decode cX8_hold 51 = .ok (.ldc 118, 2) := by decide +kernel
theorem dX8_hold_53 : decode cX8_hold 53 = .ok (.invokestatic 114, 3) := by decide +kernel
theorem dX8_hold_56 : decode cX8_hold 56 = .ok (.ifCond .eq 25, 3) := by decide +kernel
theorem dX8_hold_59 : decode cX8_hold 59 = .ok (.iload 6, 2) := by decide +kernel
theorem dX8_hold_61 : decode cX8_hold 61 = .ok (.iconst 0, 1) := by decide +kernel
theorem dX8_hold_62 : decode cX8_hold 62 = .ok (.ldc 118, 2) := by decide +kernel
theorem dX8_hold_64 : decode cX8_hold 64 = .ok (.invokestatic 114, 3) := by decide +kernel
theorem dX8_hold_67 : decode cX8_hold 67 = .ok (.ifCond .eq 14, 3) := by decide +kernel
theorem dX8_hold_70 : decode cX8_hold 70 = .ok (.iload 5, 2) := by decide +kernel
theorem dX8_hold_72 : decode cX8_hold 72 = .ok (.iload 6, 2) := by decide +kernel
theorem dX8_hold_74 : decode cX8_hold 74 = .ok (.if_icmp .gt 7, 3) := by decide +kernel
theorem dX8_hold_77 : decode cX8_hold 77 = .ok (.iconst 1, 1) := by decide +kernel
theorem dX8_hold_78 : decode cX8_hold 78 = .ok (.goto 4, 3) := by decide +kernel
theorem dX8_hold_81 : decode cX8_hold 81 = .ok (.iconst 0, 1) := by decide +kernel
theorem dX8_hold_82 : decode cX8_hold 82 = .ok (.istore 8, 2) := by decide +kernel
theorem dX8_hold_84 : decode cX8_hold 84 = .ok (.aload_n 0, 1) := by decide +kernel
theorem dX8_hold_85 : decode cX8_hold 85 = .ok (.iload 7, 2) := by decide +kernel
theorem dX8_hold_87 : decode cX8_hold 87 = .ok (.ifCond .ne 7, 3) := by decide +kernel
theorem dX8_hold_90 : decode cX8_hold 90 = .ok (.iconst 1, 1) := by decide +kernel
theorem dX8_hold_91 : decode cX8_hold 91 = .ok (.goto 34, 3) := by decide +kernel
theorem dX8_hold_94 : decode cX8_hold 94 = .ok (.iload 8, 2) := by decide +kernel
theorem dX8_hold_96 : decode cX8_hold 96 = .ok (.ifCond .ne 7, 3) := by decide +kernel
theorem dX8_hold_99 : decode cX8_hold 99 = .ok (.iconst 2, 1) := by decide +kernel
theorem dX8_hold_100 : decode cX8_hold 100 = .ok (.goto 25, 3) := by decide +kernel
theorem dX8_hold_103 : decode cX8_hold 103 = .ok (.aload_n 0, 1) := by decide +kernel
theorem dX8_hold_104 : decode cX8_hold 104 = .ok (.getfield 61, 3) := by decide +kernel
theorem dX8_hold_107 : decode cX8_hold 107 = .ok (.iload_n 1, 1) := by decide +kernel
theorem dX8_hold_108 : decode cX8_hold 108 = .ok (.baload, 1) := by decide +kernel
theorem dX8_hold_109 : decode cX8_hold 109 = .ok (.ifCond .ne 11, 3) := by decide +kernel
theorem dX8_hold_112 : decode cX8_hold 112 = .ok (.aload_n 0, 1) := by decide +kernel
theorem dX8_hold_113 : decode cX8_hold 113 = .ok (.iconst 1, 1) := by decide +kernel
theorem dX8_hold_114 : decode cX8_hold 114 = .ok (.invokevirtual 149, 3) := by decide +kernel
theorem dX8_hold_117 : decode cX8_hold 117 = .ok (.ifCond .ne 7, 3) := by decide +kernel
theorem dX8_hold_120 : decode cX8_hold 120 = .ok (.iconst 3, 1) := by decide +kernel
theorem dX8_hold_121 : decode cX8_hold 121 = .ok (.goto 4, 3) := by decide +kernel
theorem dX8_hold_124 : decode cX8_hold 124 = .ok (.iconst 0, 1) := by decide +kernel
theorem dX8_hold_125 : decode cX8_hold 125 = .ok (.putfield 100, 3) := by decide +kernel
theorem dX8_hold_128 : decode cX8_hold 128 = .ok (.aload_n 0, 1) := by decide +kernel
theorem dX8_hold_129 : decode cX8_hold 129 = .ok (.getfield 100, 3) := by decide +kernel
theorem dX8_hold_132 : decode cX8_hold 132 = .ok (.ifCond .ne 61, 3) := by decide +kernel
theorem dX8_hold_135 : decode cX8_hold 135 = .ok (.aload_n 0, 1) := by decide +kernel
theorem dX8_hold_136 : decode cX8_hold 136 = .ok (.getfield 61, 3) := by decide +kernel
theorem dX8_hold_139 : decode cX8_hold 139 = .ok (.iload_n 1, 1) := by decide +kernel
theorem dX8_hold_140 : decode cX8_hold 140 = .ok (.iconst 1, 1) := by decide +kernel
theorem dX8_hold_141 : decode cX8_hold 141 = .ok (.bastore, 1) := by decide +kernel
theorem dX8_hold_142 : decode cX8_hold 142 = .ok (.aload_n 0, 1) := by decide +kernel
theorem dX8_hold_143 : decode cX8_hold 143 = .ok (.getfield 64, 3) := by decide +kernel
theorem dX8_hold_146 : decode cX8_hold 146 = .ok (.iload_n 1, 1) := by decide +kernel
theorem dX8_hold_147 : decode cX8_hold 147 = .ok (.iload_n 2, 1) := by decide +kernel
theorem dX8_hold_148 : decode cX8_hold 148 = .ok (.iastore, 1) := by decide +kernel
theorem dX8_hold_149 : decode cX8_hold 149 = .ok (.aload_n 0, 1) := by decide +kernel
theorem dX8_hold_150 : decode cX8_hold 150 = .ok (.getfield 67, 3) := by decide +kernel
theorem dX8_hold_153 : decode cX8_hold 153 = .ok (.iload_n 1, 1) := by decide +kernel
theorem dX8_hold_154 : decode cX8_hold 154 = .ok (.iload_n 3, 1) := by decide +kernel
theorem dX8_hold_155 : decode cX8_hold 155 = .ok (.iastore, 1) := by decide +kernel
theorem dX8_hold_156 : decode cX8_hold 156 = .ok (.aload_n 0, 1) := by decide +kernel
theorem dX8_hold_157 : decode cX8_hold 157 = .ok (.getfield 70, 3) := by decide +kernel
theorem dX8_hold_160 : decode cX8_hold 160 = .ok (.iload_n 1, 1) := by decide +kernel
theorem dX8_hold_161 : decode cX8_hold 161 = .ok (.iload 4, 2) := by decide +kernel
theorem dX8_hold_163 : decode cX8_hold 163 = .ok (.iastore, 1) := by decide +kernel
theorem dX8_hold_164 : decode cX8_hold 164 = .ok (.aload_n 0, 1) := by decide +kernel
theorem dX8_hold_165 : decode cX8_hold 165 = .ok (.getfield 73, 3) := by decide +kernel
theorem dX8_hold_168 : decode cX8_hold 168 = .ok (.iload_n 1, 1) := by decide +kernel
theorem dX8_hold_169 : decode cX8_hold 169 = .ok (.iload 5, 2) := by decide +kernel
theorem dX8_hold_171 : decode cX8_hold 171 = .ok (.iastore, 1) := by decide +kernel
theorem dX8_hold_172 : decode cX8_hold 172 = .ok (.aload_n 0, 1) := by decide +kernel
theorem dX8_hold_173 : decode cX8_hold 173 = .ok (.getfield 76, 3) := by decide +kernel
theorem dX8_hold_176 : decode cX8_hold 176 = .ok (.iload_n 1, 1) := by decide +kernel
theorem dX8_hold_177 : decode cX8_hold 177 = .ok (.iload 6, 2) := by decide +kernel
theorem dX8_hold_179 : decode cX8_hold 179 = .ok (.iastore, 1) := by decide +kernel
theorem dX8_hold_180 : decode cX8_hold 180 = .ok (.aload_n 0, 1) := by decide +kernel
theorem dX8_hold_181 : decode cX8_hold 181 = .ok (.bipush 6, 2) := by decide +kernel
theorem dX8_hold_183 : decode cX8_hold 183 = .ok (.iload_n 1, 1) := by decide +kernel
theorem dX8_hold_184 : decode cX8_hold 184 = .ok (.iload_n 2, 1) := by decide +kernel
theorem dX8_hold_185 : decode cX8_hold 185 = .ok (.iconst 1, 1) := by decide +kernel
theorem dX8_hold_186 : decode cX8_hold 186 = .ok (.iadd, 1) := by decide +kernel
theorem dX8_hold_187 : decode cX8_hold 187 = .ok (.iload_n 3, 1) := by decide +kernel
theorem dX8_hold_188 : decode cX8_hold 188 = .ok (.iconst 1, 1) := by decide +kernel
theorem dX8_hold_189 : decode cX8_hold 189 = .ok (.iadd, 1) := by decide +kernel
theorem dX8_hold_190 : decode cX8_hold 190 = .ok (.invokevirtual 153, 3) := by decide +kernel
theorem dX8_hold_193 : decode cX8_hold 193 = .ok (.return_, 1) := by decide +kernel
set_option maxRecDepth 20000 in
theorem ggX8_lift_X8_isIn : GoodIn wsX8_lift wsX8_isIn := goodIn_r _ [6] (by decide +kernel) (by decide +kernel)
set_option maxRecDepth 20000 in
theorem gX8_lift_X8_isIn : GoodIn wsX8_lift (va_wsS RX8 114 yX8_isIn wsX8_isIn) := goodIn_app (goodIn_of _ (by decide +kernel)) ggX8_lift_X8_isIn
set_option maxRecDepth 20000 in
theorem ggX8_lift_X8_hasRoom : GoodIn wsX8_lift wsX8_hasRoom := goodIn_r _ [10, 11, 28, 29, 30, 31, 32, 33, 34, 35, 36, 37, 38, 39, 40, 41, 42, 43, 44, 45, 46, 47, 48, 49, 50, 51, 52, 53, 54, 55, 56, 57, 58, 59, 60, 61] (by decide +kernel) (by decide +kernel)
set_option maxRecDepth 20000 in
theorem gX8_lift_X8_hasRoom : GoodIn wsX8_lift (wsV RX8 149 RX8 yX8_hasRoom wsX8_hasRoom) := goodIn_app (goodIn_of _ (by decide +kernel)) ggX8_lift_X8_hasRoom
set_option maxRecDepth 20000 in
theorem ggX8_lift_X8_write : GoodIn wsX8_lift wsX8_write := goodIn_r _ [15, 16, 11, 17, 18, 19, 20, 5, 21, 22, 23, 24, 25, 26, 27, 3, 4, 6, 28, 29, 30, 31, 32, 33, 34, 35, 36, 37, 38, 39, 40, 41, 42, 43, 44, 45, 46, 47, 48, 49, 50, 51, 52, 53, 54, 55, 56, 57, 58, 59, 60, 61] (by decide +kernel) (by decide +kernel)
set_option maxRecDepth 20000 in
theorem gX8_lift_X8_write : GoodIn wsX8_lift (wsV RX8 153 RX8 yX8_write wsX8_write) := goodIn_app (goodIn_of _ (by decide +kernel)) ggX8_lift_X8_write
theorem dX8_lift_0 : decode cX8_lift 0 = .ok (.aload_n 0, 1) := by decide +kernel
theorem dX8_lift_1 : decode cX8_lift 1 = .ok (.iload_n 1, 1) := by decide +kernel
theorem dX8_lift_2 : decode cX8_lift 2 = .ok (.iconst 0, 1) := by decide +kernel
theorem dX8_lift_3 : decode cX8_lift 3 = .ok (.bipush 7, 2) := by decide +kernel
theorem dX8_lift_5 : decode cX8_lift 5 = .ok (.invokestatic 114, 3) := by decide +kernel
theorem dX8_lift_8 : decode cX8_lift 8 = .ok (.ifCond .ne 7, 3) := by decide +kernel
theorem dX8_lift_11 : decode cX8_lift 11 = .ok (.iconst 1, 1) := by decide +kernel
theorem dX8_lift_12 : decode cX8_lift 12 = .ok (.goto 25, 3) := by decide +kernel
theorem dX8_lift_15 : decode cX8_lift 15 = .ok (.aload_n 0, 1) := by decide +kernel
theorem dX8_lift_16 : decode cX8_lift 16 = .ok (.getfield 61, 3) := by decide +kernel
theorem dX8_lift_19 : decode cX8_lift 19 = .ok (.iload_n 1, 1) := by decide +kernel
theorem dX8_lift_20 : decode cX8_lift 20 = .ok (.baload, 1) := by decide +kernel
theorem dX8_lift_21 : decode cX8_lift 21 = .ok (.ifCond .eq 11, 3) := by decide +kernel
theorem dX8_lift_24 : decode cX8_lift 24 = .ok (.aload_n 0, 1) := by decide +kernel
theorem dX8_lift_25 : decode cX8_lift 25 = .ok (.iconst 1, 1) := by decide +kernel
theorem dX8_lift_26 : decode cX8_lift 26 = .ok (.invokevirtual 149, 3) := by decide +kernel
theorem dX8_lift_29 : decode cX8_lift 29 = .ok (.ifCond .ne 7, 3) := by decide +kernel
theorem dX8_lift_32 : decode cX8_lift 32 = .ok (.iconst 2, 1) := by decide +kernel
theorem dX8_lift_33 : decode cX8_lift 33 = .ok (.goto 4, 3) := by decide +kernel
theorem dX8_lift_36 : decode cX8_lift 36 = .ok (.iconst 0, 1) := by decide +kernel
theorem dX8_lift_37 : decode cX8_lift 37 = .ok (.putfield 100, 3) := by decide +kernel
theorem dX8_lift_40 : decode cX8_lift 40 = .ok (.aload_n 0, 1) := by decide +kernel
theorem dX8_lift_41 : decode cX8_lift 41 = .ok (.getfield 100, 3) := by decide +kernel
theorem dX8_lift_44 : decode cX8_lift 44 = .ok (.ifCond .ne 19, 3) := by decide +kernel
theorem dX8_lift_47 : decode cX8_lift 47 = .ok (.aload_n 0, 1) := by decide +kernel
theorem dX8_lift_48 : decode cX8_lift 48 = .ok (.getfield 61, 3) := by decide +kernel
theorem dX8_lift_51 : decode cX8_lift 51 = .ok (.iload_n 1, 1) := by decide +kernel
theorem dX8_lift_52 : decode cX8_lift 52 = .ok (.iconst 0, 1) := by decide +kernel
theorem dX8_lift_53 : decode cX8_lift 53 = .ok (.bastore, 1) := by decide +kernel
theorem dX8_lift_54 : decode cX8_lift 54 = .ok (.aload_n 0, 1) := by decide +kernel
theorem dX8_lift_55 : decode cX8_lift 55 = .ok (.bipush 7, 2) := by decide +kernel
theorem dX8_lift_57 : decode cX8_lift 57 = .ok (.iload_n 1, 1) := by decide +kernel
theorem dX8_lift_58 : decode cX8_lift 58 = .ok (.iconst 0, 1) := by decide +kernel
theorem dX8_lift_59 : decode cX8_lift 59 = .ok (.iconst 0, 1) := by decide +kernel
theorem dX8_lift_60 : decode cX8_lift 60 = .ok (.invokevirtual 153, 3) := by decide +kernel
theorem dX8_lift_63 : decode cX8_lift 63 = .ok (.return_, 1) := by decide +kernel
set_option maxRecDepth 20000 in
theorem ggX8_noOfficer_X8_isIn : GoodIn wsX8_noOfficer wsX8_isIn := goodIn_r _ [4] (by decide +kernel) (by decide +kernel)
set_option maxRecDepth 20000 in
theorem gX8_noOfficer_X8_isIn : GoodIn wsX8_noOfficer (va_wsS RX8 114 yX8_isIn wsX8_isIn) := goodIn_app (goodIn_of _ (by decide +kernel)) ggX8_noOfficer_X8_isIn
theorem dX8_noOfficer_0 : decode cX8_noOfficer 0 = .ok (.iload_n 1, 1) := by decide +kernel
theorem dX8_noOfficer_1 : decode cX8_noOfficer 1 = .ok (.iconst 0, 1) := by decide +kernel
theorem dX8_noOfficer_2 : decode cX8_noOfficer 2 = .ok (.bipush 7, 2) := by decide +kernel
theorem dX8_noOfficer_4 : decode cX8_noOfficer 4 = .ok (.invokestatic 114, 3) := by decide +kernel
theorem dX8_noOfficer_7 : decode cX8_noOfficer 7 = .ok (.ifCond .ne 7, 3) := by decide +kernel
theorem dX8_noOfficer_10 : decode cX8_noOfficer 10 = .ok (.iconst 1, 1) := by decide +kernel
theorem dX8_noOfficer_11 : decode cX8_noOfficer 11 = .ok (.goto 4, 3) := by decide +kernel
theorem dX8_noOfficer_14 : decode cX8_noOfficer 14 = .ok (.iconst 0, 1) := by decide +kernel
theorem dX8_noOfficer_15 : decode cX8_noOfficer 15 = .ok (.ireturn, 1) := by decide +kernel
set_option maxRecDepth 20000 in
theorem ggX8_noList_X8_isIn : GoodIn wsX8_noList wsX8_isIn := goodIn_r _ [5] (by decide +kernel) (by decide +kernel)
set_option maxRecDepth 20000 in
theorem gX8_noList_X8_isIn : GoodIn wsX8_noList (va_wsS RX8 114 yX8_isIn wsX8_isIn) := goodIn_app (goodIn_of _ (by decide +kernel)) ggX8_noList_X8_isIn
theorem dX8_noList_0 : decode cX8_noList 0 = .ok (.iload_n 1, 1) := by decide +kernel
theorem dX8_noList_1 : decode cX8_noList 1 = .ok (.iconst 0, 1) := by decide +kernel
theorem dX8_noList_2 : decode cX8_noList 2 = .ok (.aload_n 0, 1) := by decide +kernel
theorem dX8_noList_3 : decode cX8_noList 3 = .ok (.getfield 185, 3) := by decide +kernel
theorem dX8_noList_6 : decode cX8_noList 6 = .ok (.iconst 1, 1) := by decide +kernel
theorem dX8_noList_7 : decode cX8_noList 7 = .ok (.isub, 1) := by decide +kernel
theorem dX8_noList_8 : decode cX8_noList 8 = .ok (.invokestatic 114, 3) := by decide +kernel
theorem dX8_noList_11 : decode cX8_noList 11 = .ok (.ifCond .ne 7, 3) := by decide +kernel
theorem dX8_noList_14 : decode cX8_noList 14 = .ok (.iconst 1, 1) := by decide +kernel
theorem dX8_noList_15 : decode cX8_noList 15 = .ok (.goto 4, 3) := by decide +kernel
theorem dX8_noList_18 : decode cX8_noList 18 = .ok (.iconst 0, 1) := by decide +kernel
theorem dX8_noList_19 : decode cX8_noList 19 = .ok (.ireturn, 1) := by decide +kernel
theorem dX8_hasRight_0 : decode cX8_hasRight 0 = .ok (.aload_n 0, 1) := by decide +kernel
theorem dX8_hasRight_1 : decode cX8_hasRight 1 = .ok (.getfield 7, 3) := by decide +kernel
theorem dX8_hasRight_4 : decode cX8_hasRight 4 = .ok (.iload_n 1, 1) := by decide +kernel
theorem dX8_hasRight_5 : decode cX8_hasRight 5 = .ok (.iaload, 1) := by decide +kernel
theorem dX8_hasRight_6 : decode cX8_hasRight 6 = .ok (.iload_n 2, 1) := by decide +kernel
theorem dX8_hasRight_7 : decode cX8_hasRight 7 = .ok (.iand, 1) := by decide +kernel
theorem dX8_hasRight_8 : decode cX8_hasRight 8 = .ok (.ifCond .eq 7, 3) := by decide +kernel
theorem dX8_hasRight_11 : decode cX8_hasRight 11 = .ok (.iconst 1, 1) := by decide +kernel
theorem dX8_hasRight_12 : decode cX8_hasRight 12 = .ok (.goto 4, 3) := by decide +kernel
theorem dX8_hasRight_15 : decode cX8_hasRight 15 = .ok (.iconst 0, 1) := by decide +kernel
theorem dX8_hasRight_16 : decode cX8_hasRight 16 = .ok (.ireturn, 1) := by decide +kernel
set_option maxRecDepth 20000 in
theorem ggX8_draw_X8_mayGo : GoodIn wsX8_draw wsX8_mayGo := goodIn_r _ [12, 13, 14, 15, 16, 11, 17, 18, 19, 20, 21, 22, 23, 24, 25, 26, 27, 28, 29, 30, 31, 32, 33, 34, 35, 36, 37, 38, 39, 40, 41, 42, 43, 44, 45, 46, 47, 48, 49, 50, 51, 52, 53, 54, 55, 56, 57, 58, 59, 60, 61, 62, 63, 64, 65, 66, 101, 102, 103, 104, 105, 106, 107, 108, 109, 110, 111, 112, 113, 114, 115, 116, 117, 118, 119, 120, 121, 122, 123, 124, 125, 126, 127, 128, 129, 130, 131, 132, 133, 134] (by decide +kernel) (by decide +kernel)
set_option maxRecDepth 20000 in
theorem gX8_draw_X8_mayGo : GoodIn wsX8_draw (wsV RX8 188 RX8 yX8_mayGo wsX8_mayGo) := goodIn_app (goodIn_of _ (by decide +kernel)) ggX8_draw_X8_mayGo
set_option maxRecDepth 20000 in
theorem ggX8_draw_X8_noOfficer : GoodIn wsX8_draw wsX8_noOfficer := goodIn_r _ [70, 64, 65, 11, 66] (by decide +kernel) (by decide +kernel)
set_option maxRecDepth 20000 in
theorem gX8_draw_X8_noOfficer : GoodIn wsX8_draw (wsV RX8 191 RX8 yX8_noOfficer wsX8_noOfficer) := goodIn_app (goodIn_of _ (by decide +kernel)) ggX8_draw_X8_noOfficer
set_option maxRecDepth 20000 in
theorem ggX8_draw_X8_isDay : GoodIn wsX8_draw wsX8_isDay := goodIn_r _ [74, 75, 7, 64, 65, 11, 66, 101, 102, 103, 104, 105, 106, 107, 108, 109, 110, 111, 112, 113, 114, 115, 116, 117, 118, 119, 120, 121, 122, 123, 124, 125, 126, 127, 128, 129, 130, 131, 132, 133, 134] (by decide +kernel) (by decide +kernel)
set_option maxRecDepth 20000 in
theorem gX8_draw_X8_isDay : GoodIn wsX8_draw (wsV RX8 160 RX8 yX8_isDay wsX8_isDay) := goodIn_app (goodIn_of _ (by decide +kernel)) ggX8_draw_X8_isDay
set_option maxRecDepth 20000 in
theorem ggX8_draw_X8_hasRight : GoodIn wsX8_draw wsX8_hasRight := goodIn_r _ [79, 80, 101, 102, 103, 104, 105, 106, 107, 108, 109, 110, 111, 112, 113, 114, 115, 116, 117, 118, 119, 120, 121, 122, 123, 124, 125, 126, 127, 128, 129, 130, 131, 132, 133, 134] (by decide +kernel) (by decide +kernel)
set_option maxRecDepth 20000 in
theorem gX8_draw_X8_hasRight : GoodIn wsX8_draw (wsV RX8 194 RX8 yX8_hasRight wsX8_hasRight) := goodIn_app (goodIn_of _ (by decide +kernel)) ggX8_draw_X8_hasRight
set_option maxRecDepth 20000 in
theorem ggX8_draw_X8_hasRoom : GoodIn wsX8_draw wsX8_hasRoom := goodIn_r _ [84, 85, 101, 102, 103, 104, 105, 106, 107, 108, 109, 110, 111, 112, 113, 114, 115, 116, 117, 118, 119, 120, 121, 122, 123, 124, 125, 126, 127, 128, 129, 130, 131, 132, 133, 134] (by decide +kernel) (by decide +kernel)
set_option maxRecDepth 20000 in
theorem gX8_draw_X8_hasRoom : GoodIn wsX8_draw (wsV RX8 149 RX8 yX8_hasRoom wsX8_hasRoom) := goodIn_app (goodIn_of _ (by decide +kernel)) ggX8_draw_X8_hasRoom
set_option maxRecDepth 20000 in
theorem ggX8_draw_X8_write : GoodIn wsX8_draw wsX8_write := goodIn_r _ [89, 90, 85, 91, 92, 93, 94, 11, 95, 1, 96, 97, 98, 99, 100, 64, 65, 66, 101, 102, 103, 104, 105, 106, 107, 108, 109, 110, 111, 112, 113, 114, 115, 116, 117, 118, 119, 120, 121, 122, 123, 124, 125, 126, 127, 128, 129, 130, 131, 132, 133, 134] (by decide +kernel) (by decide +kernel)
set_option maxRecDepth 20000 in
theorem gX8_draw_X8_write : GoodIn wsX8_draw (wsV RX8 153 RX8 yX8_write wsX8_write) := goodIn_app (goodIn_of _ (by decide +kernel)) ggX8_draw_X8_write
theorem dX8_draw_0 : decode cX8_draw 0 = .ok (.iconst 0, 1) := by decide +kernel
theorem dX8_draw_1 : decode cX8_draw 1 = .ok (.istore_n 3, 1) := by decide +kernel
theorem dX8_draw_2 : decode cX8_draw 2 = .ok (.iconst 0, 1) := by decide +kernel
theorem dX8_draw_3 : decode cX8_draw 3 = .ok (.istore 4, 2) := by decide +kernel
theorem dX8_draw_5 : decode cX8_draw 5 = .ok (.iload 4, 2) := by decide +kernel
theorem dX8_draw_7 : decode cX8_draw 7 = .ok (.aload_n 0, 1) := by decide +kernel
theorem dX8_draw_8 : decode cX8_draw 8 = .ok (.getfield 135, 3) := by decide +kernel
theorem dX8_draw_11 : decode cX8_draw 11 = .ok (.if_icmp .ge 27, 3) := by decide +kernel
theorem dX8_draw_14 : decode cX8_draw 14 = .ok (.aload_n 0, 1) := by decide +kernel
theorem dX8_draw_15 : decode cX8_draw 15 = .ok (.iload 4, 2) := by decide +kernel
theorem dX8_draw_17 : decode cX8_draw 17 = .ok (.iload_n 2, 1) := by decide +kernel
theorem dX8_draw_18 : decode cX8_draw 18 = .ok (.invokevirtual 188, 3) := by decide +kernel
theorem dX8_draw_21 : decode cX8_draw 21 = .ok (.ifCond .eq 9, 3) := by decide +kernel
theorem dX8_draw_24 : decode cX8_draw 24 = .ok (.iload_n 3, 1) := by decide +kernel
theorem dX8_draw_25 : decode cX8_draw 25 = .ok (.iconst 1, 1) := by decide +kernel
theorem dX8_draw_26 : decode cX8_draw 26 = .ok (.iadd, 1) := by decide +kernel
theorem dX8_draw_27 : decode cX8_draw 27 = .ok (.goto 4, 3) := by decide +kernel
theorem dX8_draw_30 : decode cX8_draw 30 = .ok (.iload_n 3, 1) := by decide +kernel
theorem dX8_draw_31 : decode cX8_draw 31 = .ok (.istore_n 3, 1) := by decide +kernel
theorem dX8_draw_32 : decode cX8_draw 32 = .ok (.iinc 4 1, 3) := by decide +kernel
theorem dX8_draw_35 : decode cX8_draw 35 = .ok (.goto (-30), 3) := by decide +kernel
theorem dX8_draw_38 : decode cX8_draw 38 = .ok (.aload_n 0, 1) := by decide +kernel
theorem dX8_draw_39 : decode cX8_draw 39 = .ok (.aload_n 0, 1) := by decide +kernel
theorem dX8_draw_40 : decode cX8_draw 40 = .ok (.iload_n 1, 1) := by decide +kernel
theorem dX8_draw_41 : decode cX8_draw 41 = .ok (.invokevirtual 191, 3) := by decide +kernel
theorem dX8_draw_44 : decode cX8_draw 44 = .ok (.ifCond .eq 7, 3) := by decide +kernel
theorem dX8_draw_47 : decode cX8_draw 47 = .ok (.iconst 1, 1) := by decide +kernel
theorem dX8_draw_48 : decode cX8_draw 48 = .ok (.goto 50, 3) := by decide +kernel
theorem dX8_draw_51 : decode cX8_draw 51 = .ok (.aload_n 0, 1) := by decide +kernel
theorem dX8_draw_52 : decode cX8_draw 52 = .ok (.iload_n 2, 1) := by decide +kernel
theorem dX8_draw_53 : decode cX8_draw 53 = .ok (.invokevirtual 160, 3) := by decide +kernel
theorem dX8_draw_56 : decode cX8_draw 56 = .ok (.ifCond .ne 7, 3) := by decide +kernel
theorem dX8_draw_59 : decode cX8_draw 59 = .ok (.iconst 2, 1) := by decide +kernel
theorem dX8_draw_60 : decode cX8_draw 60 = .ok (.goto 38, 3) := by decide +kernel
theorem dX8_draw_63 : decode cX8_draw 63 = .ok (.aload_n 0, 1) := by decide +kernel
theorem dX8_draw_64 : decode cX8_draw 64 = .ok (.iload_n 1, 1) := by decide +kernel
theorem dX8_draw_65 : decode cX8_draw 65 = .ok (.iconst 1, 1) := by decide +kernel
theorem dX8_draw_66 : decode cX8_draw 66 = .ok (.invokevirtual 194, 3) := by decide +kernel
theorem dX8_draw_69 : decode cX8_draw 69 = .ok (.ifCond .eq 24, 3) := by decide +kernel
theorem dX8_draw_72 : decode cX8_draw 72 = .ok (.iload_n 3, 1) := by decide +kernel
theorem dX8_draw_73 : decode cX8_draw 73 = .ok (.ifCond .eq 20, 3) := by decide +kernel
theorem dX8_draw_76 : decode cX8_draw 76 = .ok (.aload_n 0, 1) := by decide +kernel
theorem dX8_draw_77 : decode cX8_draw 77 = .ok (.getfield 185, 3) := by decide +kernel
theorem dX8_draw_80 : decode cX8_draw 80 = .ok (.bipush 16, 2) := by decide +kernel
theorem dX8_draw_82 : decode cX8_draw 82 = .ok (.if_icmp .eq 11, 3) := by decide +kernel
theorem dX8_draw_85 : decode cX8_draw 85 = .ok (.aload_n 0, 1) := by decide +kernel
theorem dX8_draw_86 : decode cX8_draw 86 = .ok (.iconst 1, 1) := by decide +kernel
theorem dX8_draw_87 : decode cX8_draw 87 = .ok (.invokevirtual 149, 3) := by decide +kernel
theorem dX8_draw_90 : decode cX8_draw 90 = .ok (.ifCond .ne 7, 3) := by decide +kernel
theorem dX8_draw_93 : decode cX8_draw 93 = .ok (.iconst 3, 1) := by decide +kernel
theorem dX8_draw_94 : decode cX8_draw 94 = .ok (.goto 4, 3) := by decide +kernel
theorem dX8_draw_97 : decode cX8_draw 97 = .ok (.iconst 0, 1) := by decide +kernel
theorem dX8_draw_98 : decode cX8_draw 98 = .ok (.putfield 100, 3) := by decide +kernel
theorem dX8_draw_101 : decode cX8_draw 101 = .ok (.aload_n 0, 1) := by decide +kernel
theorem dX8_draw_102 : decode cX8_draw 102 = .ok (.getfield 100, 3) := by decide +kernel
theorem dX8_draw_105 : decode cX8_draw 105 = .ok (.ifCond .le 5, 3) := by decide +kernel
theorem dX8_draw_108 : decode cX8_draw 108 = .ok (.iconst 0, 1) := by decide +kernel
theorem dX8_draw_109 : decode cX8_draw 109 = .ok (.ireturn, 1) := by decide +kernel
theorem dX8_draw_110 : decode cX8_draw 110 = .ok (.aload_n 0, 1) := by decide +kernel
theorem dX8_draw_111 : decode cX8_draw 111 = .ok (.getfield 185, 3) := by decide +kernel
theorem dX8_draw_114 : decode cX8_draw 114 = .ok (.istore 4, 2) := by decide +kernel
theorem dX8_draw_116 : decode cX8_draw 116 = .ok (.aload_n 0, 1) := by decide +kernel
theorem dX8_draw_117 : decode cX8_draw 117 = .ok (.dup, 1) := by decide +kernel
theorem dX8_draw_118 : decode cX8_draw 118 = .ok (.getfield 185, 3) := by decide +kernel
theorem dX8_draw_121 : decode cX8_draw 121 = .ok (.iconst 1, 1) := by decide +kernel
theorem dX8_draw_122 : decode cX8_draw 122 = .ok (.iadd, 1) := by decide +kernel
theorem dX8_draw_123 : decode cX8_draw 123 = .ok (.putfield 185, 3) := by decide +kernel
theorem dX8_draw_126 : decode cX8_draw 126 = .ok (.aload_n 0, 1) := by decide +kernel
theorem dX8_draw_127 : decode cX8_draw 127 = .ok (.getfield 85, 3) := by decide +kernel
theorem dX8_draw_130 : decode cX8_draw 130 = .ok (.iload 4, 2) := by decide +kernel
theorem dX8_draw_132 : decode cX8_draw 132 = .ok (.iload_n 1, 1) := by decide +kernel
theorem dX8_draw_133 : decode cX8_draw 133 = .ok (.iastore, 1) := by decide +kernel
theorem dX8_draw_134 : decode cX8_draw 134 = .ok (.iconst 0, 1) := by decide +kernel
theorem dX8_draw_135 : decode cX8_draw 135 = .ok (.istore 5, 2) := by decide +kernel
theorem dX8_draw_137 : decode cX8_draw 137 = .ok (.iload 5, 2) := by decide +kernel
theorem dX8_draw_139 : decode cX8_draw 139 = .ok (.aload_n 0, 1) := by decide +kernel
theorem dX8_draw_140 : decode cX8_draw 140 = .ok (.getfield 135, 3) := by decide +kernel
theorem dX8_draw_143 : decode cX8_draw 143 = .ok (.if_icmp .ge 50, 3) := by decide +kernel
theorem dX8_draw_146 : decode cX8_draw 146 = .ok (.aload_n 0, 1) := by decide +kernel
theorem dX8_draw_147 : decode cX8_draw 147 = .ok (.iload 5, 2) := by decide +kernel
theorem dX8_draw_149 : decode cX8_draw 149 = .ok (.iload_n 2, 1) := by decide +kernel
theorem dX8_draw_150 : decode cX8_draw 150 = .ok (.invokevirtual 188, 3) := by decide +kernel
theorem dX8_draw_153 : decode cX8_draw 153 = .ok (.ifCond .eq 34, 3) := by decide +kernel
theorem dX8_draw_156 : decode cX8_draw 156 = .ok (.aload_n 0, 1) := by decide +kernel
theorem dX8_draw_157 : decode cX8_draw 157 = .ok (.getfield 79, 3) := by decide +kernel
theorem dX8_draw_160 : decode cX8_draw 160 = .ok (.bipush 64, 2) := by decide +kernel
theorem dX8_draw_162 : decode cX8_draw 162 = .ok (.iload 4, 2) := by decide +kernel
theorem dX8_draw_164 : decode cX8_draw 164 = .ok (.imul, 1) := by decide +kernel
theorem dX8_draw_165 : decode cX8_draw 165 = .ok (.aload_n 0, 1) := by decide +kernel
theorem dX8_draw_166 : decode cX8_draw 166 = .ok (.getfield 82, 3) := by decide +kernel
theorem dX8_draw_169 : decode cX8_draw 169 = .ok (.iload 4, 2) := by decide +kernel
theorem dX8_draw_171 : decode cX8_draw 171 = .ok (.iaload, 1) := by decide +kernel
theorem dX8_draw_172 : decode cX8_draw 172 = .ok (.iadd, 1) := by decide +kernel
theorem dX8_draw_173 : decode cX8_draw 173 = .ok (.iload 5, 2) := by decide +kernel
theorem dX8_draw_175 : decode cX8_draw 175 = .ok (.iastore, 1) := by decide +kernel
theorem dX8_draw_176 : decode cX8_draw 176 = .ok (.aload_n 0, 1) := by decide +kernel
theorem dX8_draw_177 : decode cX8_draw 177 = .ok (.getfield 82, 3) := by decide +kernel
theorem dX8_draw_180 : decode cX8_draw 180 = .ok (.iload 4, 2) := by decide +kernel
theorem dX8_draw_182 : decode cX8_draw 182 = .ok (.dup2, 1) := by decide +kernel
theorem dX8_draw_183 : decode cX8_draw 183 = .ok (.iaload, 1) := by decide +kernel
theorem dX8_draw_184 : decode cX8_draw 184 = .ok (.iconst 1, 1) := by decide +kernel
theorem dX8_draw_185 : decode cX8_draw 185 = .ok (.iadd, 1) := by decide +kernel
theorem dX8_draw_186 : decode cX8_draw 186 = .ok (.iastore, 1) := by decide +kernel
theorem dX8_draw_187 : decode cX8_draw 187 = .ok (.iinc 5 1, 3) := by decide +kernel
theorem dX8_draw_190 : decode cX8_draw 190 = .ok (.goto (-53), 3) := by decide +kernel
theorem dX8_draw_193 : decode cX8_draw 193 = .ok (.aload_n 0, 1) := by decide +kernel
theorem dX8_draw_194 : decode cX8_draw 194 = .ok (.iload_n 2, 1) := by decide +kernel
theorem dX8_draw_195 : decode cX8_draw 195 = .ok (.putfield 126, 3) := by decide +kernel
theorem dX8_draw_198 : decode cX8_draw 198 = .ok (.aload_n 0, 1) := by decide +kernel
theorem dX8_draw_199 : decode cX8_draw 199 = .ok (.bipush 8, 2) := by decide +kernel
theorem dX8_draw_201 : decode cX8_draw 201 = .ok (.iload 4, 2) := by decide +kernel
theorem dX8_draw_203 : decode cX8_draw 203 = .ok (.iload_n 2, 1) := by decide +kernel
theorem dX8_draw_204 : decode cX8_draw 204 = .ok (.iload_n 3, 1) := by decide +kernel
theorem dX8_draw_205 : decode cX8_draw 205 = .ok (.invokevirtual 153, 3) := by decide +kernel
theorem dX8_draw_208 : decode cX8_draw 208 = .ok (.iload 4, 2) := by decide +kernel
theorem dX8_draw_210 : decode cX8_draw 210 = .ok (.ireturn, 1) := by decide +kernel
set_option maxRecDepth 20000 in
theorem ggX8_listed_X8_noList : GoodIn wsX8_listed wsX8_noList := goodIn_r _ [8, 9, 10, 11, 7, 12, 13, 14, 15, 16, 17, 18, 19, 20, 21, 22, 23, 24, 25, 26, 27, 28, 29, 30, 31, 32, 33, 34, 35, 36, 37, 38, 39, 40, 41, 42, 43, 44, 45, 46] (by decide +kernel) (by decide +kernel)
set_option maxRecDepth 20000 in
theorem gX8_listed_X8_noList : GoodIn wsX8_listed (wsV RX8 197 RX8 yX8_noList wsX8_noList) := goodIn_app (goodIn_of _ (by decide +kernel)) ggX8_listed_X8_noList
theorem dX8_listed_0 : decode cX8_listed 0 = .ok (.aload_n 0, 1) := by decide +kernel
theorem dX8_listed_1 : decode cX8_listed 1 = .ok (.aload_n 0, 1) := by decide +kernel
theorem dX8_listed_2 : decode cX8_listed 2 = .ok (.iload_n 1, 1) := by decide +kernel
theorem dX8_listed_3 : decode cX8_listed 3 = .ok (.invokevirtual 197, 3) := by decide +kernel
theorem dX8_listed_6 : decode cX8_listed 6 = .ok (.ifCond .ne 7, 3) := by decide +kernel
theorem dX8_listed_9 : decode cX8_listed 9 = .ok (.iload_n 2, 1) := by decide +kernel
theorem dX8_listed_10 : decode cX8_listed 10 = .ok (.ifCond .ge 7, 3) := by decide +kernel
theorem dX8_listed_13 : decode cX8_listed 13 = .ok (.iconst 1, 1) := by decide +kernel
theorem dX8_listed_14 : decode cX8_listed 14 = .ok (.goto 4, 3) := by decide +kernel
theorem dX8_listed_17 : decode cX8_listed 17 = .ok (.iconst 0, 1) := by decide +kernel
theorem dX8_listed_18 : decode cX8_listed 18 = .ok (.putfield 100, 3) := by decide +kernel
theorem dX8_listed_21 : decode cX8_listed 21 = .ok (.aload_n 0, 1) := by decide +kernel
theorem dX8_listed_22 : decode cX8_listed 22 = .ok (.getfield 100, 3) := by decide +kernel
theorem dX8_listed_25 : decode cX8_listed 25 = .ok (.ifCond .le 7, 3) := by decide +kernel
theorem dX8_listed_28 : decode cX8_listed 28 = .ok (.iconst 0, 1) := by decide +kernel
theorem dX8_listed_29 : decode cX8_listed 29 = .ok (.goto 28, 3) := by decide +kernel
theorem dX8_listed_32 : decode cX8_listed 32 = .ok (.iload_n 2, 1) := by decide +kernel
theorem dX8_listed_33 : decode cX8_listed 33 = .ok (.aload_n 0, 1) := by decide +kernel
theorem dX8_listed_34 : decode cX8_listed 34 = .ok (.getfield 82, 3) := by decide +kernel
theorem dX8_listed_37 : decode cX8_listed 37 = .ok (.iload_n 1, 1) := by decide +kernel
theorem dX8_listed_38 : decode cX8_listed 38 = .ok (.iaload, 1) := by decide +kernel
theorem dX8_listed_39 : decode cX8_listed 39 = .ok (.if_icmp .ge 17, 3) := by decide +kernel
theorem dX8_listed_42 : decode cX8_listed 42 = .ok (.aload_n 0, 1) := by decide +kernel
theorem dX8_listed_43 : decode cX8_listed 43 = .ok (.getfield 79, 3) := by decide +kernel
theorem dX8_listed_46 : decode cX8_listed 46 = .ok (.bipush 64, 2) := by decide +kernel
theorem dX8_listed_48 : decode cX8_listed 48 = .ok (.iload_n 1, 1) := by decide +kernel
theorem dX8_listed_49 : decode cX8_listed 49 = .ok (.imul, 1) := by decide +kernel
theorem dX8_listed_50 : decode cX8_listed 50 = .ok (.iload_n 2, 1) := by decide +kernel
theorem dX8_listed_51 : decode cX8_listed 51 = .ok (.iadd, 1) := by decide +kernel
theorem dX8_listed_52 : decode cX8_listed 52 = .ok (.iaload, 1) := by decide +kernel
theorem dX8_listed_53 : decode cX8_listed 53 = .ok (.goto 4, 3) := by decide +kernel
theorem dX8_listed_56 : decode cX8_listed 56 = .ok (.iconst (-1), 1) := by decide +kernel
theorem dX8_listed_57 : decode cX8_listed 57 = .ok (.ireturn, 1) := by decide +kernel
theorem dX8_bits_0 : decode cX8_bits 0 = .ok (.iconst 0, 1) := by decide +kernel
theorem dX8_bits_1 : decode cX8_bits 1 = .ok (.istore_n 1, 1) := by decide +kernel
theorem dX8_bits_2 : decode cX8_bits 2 = .ok (.iconst 0, 1) := by decide +kernel
theorem dX8_bits_3 : decode cX8_bits 3 = .ok (.istore_n 2, 1) := by decide +kernel
theorem dX8_bits_4 : decode cX8_bits 4 = .ok (.iload_n 2, 1) := by decide +kernel
theorem dX8_bits_5 : decode cX8_bits 5 = .ok (.bipush 8, 2) := by decide +kernel
theorem dX8_bits_7 : decode cX8_bits 7 = .ok (.if_icmp .ge 17, 3) := by decide +kernel
theorem dX8_bits_10 : decode cX8_bits 10 = .ok (.iload_n 1, 1) := by decide +kernel
theorem dX8_bits_11 : decode cX8_bits 11 = .ok (.iload_n 0, 1) := by decide +kernel
theorem dX8_bits_12 : decode cX8_bits 12 = .ok (.iload_n 2, 1) := by decide +kernel
theorem dX8_bits_13 : decode cX8_bits 13 = .ok (.ishr, 1) := by decide +kernel
theorem dX8_bits_14 : decode cX8_bits 14 = .ok (.iconst 1, 1) := by decide +kernel
theorem dX8_bits_15 : decode cX8_bits 15 = .ok (.iand, 1) := by decide +kernel
theorem dX8_bits_16 : decode cX8_bits 16 = .ok (.iadd, 1) := by decide +kernel
theorem dX8_bits_17 : decode cX8_bits 17 = .ok (.istore_n 1, 1) := by decide +kernel
theorem dX8_bits_18 : decode cX8_bits 18 = .ok (.iinc 2 1, 3) := by decide +kernel
theorem dX8_bits_21 : decode cX8_bits 21 = .ok (.goto (-17), 3) := by decide +kernel
theorem dX8_bits_24 : decode cX8_bits 24 = .ok (.iload_n 1, 1) := by decide +kernel
theorem dX8_bits_25 : decode cX8_bits 25 = .ok (.ireturn, 1) := by decide +kernel
set_option maxRecDepth 20000 in
theorem ggX8_approve_X8_noList : GoodIn wsX8_approve wsX8_noList := goodIn_r _ [9, 10, 11, 12, 8, 13, 47, 48, 49, 50, 51, 52, 53, 54, 55, 56, 57, 58, 59, 60, 61, 62, 63, 64, 65, 66, 67, 68, 69, 70, 71, 72, 73, 74, 75, 76, 77, 78, 79, 80] (by decide +kernel) (by decide +kernel)
set_option maxRecDepth 20000 in
theorem gX8_approve_X8_noList : GoodIn wsX8_approve (wsV RX8 197 RX8 yX8_noList wsX8_noList) := goodIn_app (goodIn_of _ (by decide +kernel)) ggX8_approve_X8_noList
set_option maxRecDepth 20000 in
theorem ggX8_approve_X8_noOfficer : GoodIn wsX8_approve wsX8_noOfficer := goodIn_r _ [17, 11, 12, 8, 13] (by decide +kernel) (by decide +kernel)
set_option maxRecDepth 20000 in
theorem gX8_approve_X8_noOfficer : GoodIn wsX8_approve (wsV RX8 191 RX8 yX8_noOfficer wsX8_noOfficer) := goodIn_app (goodIn_of _ (by decide +kernel)) ggX8_approve_X8_noOfficer
set_option maxRecDepth 20000 in
theorem ggX8_approve_X8_hasRight : GoodIn wsX8_approve wsX8_hasRight := goodIn_r _ [21, 22, 47, 48, 49, 50, 51, 52, 53, 54, 55, 56, 57, 58, 59, 60, 61, 62, 63, 64, 65, 66, 67, 68, 69, 70, 71, 72, 73, 74, 75, 76, 77, 78, 79, 80] (by decide +kernel) (by decide +kernel)
set_option maxRecDepth 20000 in
theorem gX8_approve_X8_hasRight : GoodIn wsX8_approve (wsV RX8 194 RX8 yX8_hasRight wsX8_hasRight) := goodIn_app (goodIn_of _ (by decide +kernel)) ggX8_approve_X8_hasRight
set_option maxRecDepth 20000 in
theorem ggX8_approve_X8_hasRoom : GoodIn wsX8_approve wsX8_hasRoom := goodIn_r _ [26, 27, 47, 48, 49, 50, 51, 52, 53, 54, 55, 56, 57, 58, 59, 60, 61, 62, 63, 64, 65, 66, 67, 68, 69, 70, 71, 72, 73, 74, 75, 76, 77, 78, 79, 80] (by decide +kernel) (by decide +kernel)
set_option maxRecDepth 20000 in
theorem gX8_approve_X8_hasRoom : GoodIn wsX8_approve (wsV RX8 149 RX8 yX8_hasRoom wsX8_hasRoom) := goodIn_app (goodIn_of _ (by decide +kernel)) ggX8_approve_X8_hasRoom
set_option maxRecDepth 20000 in
theorem ggX8_approve_X8_write : GoodIn wsX8_approve wsX8_write := goodIn_r _ [31, 32, 27, 33, 34, 35, 36, 8, 37, 38, 39, 40, 41, 42, 43, 11, 12, 13, 47, 48, 49, 50, 51, 52, 53, 54, 55, 56, 57, 58, 59, 60, 61, 62, 63, 64, 65, 66, 67, 68, 69, 70, 71, 72, 73, 74, 75, 76, 77, 78, 79, 80] (by decide +kernel) (by decide +kernel)
set_option maxRecDepth 20000 in
theorem gX8_approve_X8_write : GoodIn wsX8_approve (wsV RX8 153 RX8 yX8_write wsX8_write) := goodIn_app (goodIn_of _ (by decide +kernel)) ggX8_approve_X8_write
set_option maxRecDepth 20000 in
theorem ggX8_approve_X8_bits : GoodIn wsX8_approve wsX8_bits := goodIn_r _ [46] (by decide +kernel) (by decide +kernel)
set_option maxRecDepth 20000 in
theorem gX8_approve_X8_bits : GoodIn wsX8_approve (va_wsS RX8 200 yX8_bits wsX8_bits) := goodIn_app (goodIn_of _ (by decide +kernel)) ggX8_approve_X8_bits
theorem dX8_approve_0 : decode cX8_approve 0 = .ok (.aload_n 0, 1) := by decide +kernel
theorem dX8_approve_1 : decode cX8_approve 1 = .ok (.aload_n 0, 1) := by decide +kernel
theorem dX8_approve_2 : decode cX8_approve 2 = .ok (.iload_n 1, 1) := by decide +kernel
theorem dX8_approve_3 : decode cX8_approve 3 = .ok (.invokevirtual 197, 3) := by decide +kernel
theorem dX8_approve_6 : decode cX8_approve 6 = .ok (.ifCond .ne 11, 3) := by decide +kernel
theorem dX8_approve_9 : decode cX8_approve 9 = .ok (.aload_n 0, 1) := by decide +kernel
theorem dX8_approve_10 : decode cX8_approve 10 = .ok (.iload_n 2, 1) := by decide +kernel
theorem dX8_approve_11 : decode cX8_approve 11 = .ok (.invokevirtual 191, 3) := by decide +kernel
theorem dX8_approve_14 : decode cX8_approve 14 = .ok (.ifCond .eq 7, 3) := by decide +kernel
theorem dX8_approve_17 : decode cX8_approve 17 = .ok (.iconst 1, 1) := by decide +kernel
theorem dX8_approve_18 : decode cX8_approve 18 = .ok (.goto 58, 3) := by decide +kernel
theorem dX8_approve_21 : decode cX8_approve 21 = .ok (.aload_n 0, 1) := by decide +kernel
theorem dX8_approve_22 : decode cX8_approve 22 = .ok (.getfield 91, 3) := by decide +kernel
theorem dX8_approve_25 : decode cX8_approve 25 = .ok (.iload_n 1, 1) := by decide +kernel
theorem dX8_approve_26 : decode cX8_approve 26 = .ok (.baload, 1) := by decide +kernel
theorem dX8_approve_27 : decode cX8_approve 27 = .ok (.ifCond .ne 44, 3) := by decide +kernel
theorem dX8_approve_30 : decode cX8_approve 30 = .ok (.aload_n 0, 1) := by decide +kernel
theorem dX8_approve_31 : decode cX8_approve 31 = .ok (.iload_n 2, 1) := by decide +kernel
theorem dX8_approve_32 : decode cX8_approve 32 = .ok (.iconst 2, 1) := by decide +kernel
theorem dX8_approve_33 : decode cX8_approve 33 = .ok (.invokevirtual 194, 3) := by decide +kernel
theorem dX8_approve_36 : decode cX8_approve 36 = .ok (.ifCond .eq 35, 3) := by decide +kernel
theorem dX8_approve_39 : decode cX8_approve 39 = .ok (.aload_n 0, 1) := by decide +kernel
theorem dX8_approve_40 : decode cX8_approve 40 = .ok (.getfield 85, 3) := by decide +kernel
theorem dX8_approve_43 : decode cX8_approve 43 = .ok (.iload_n 1, 1) := by decide +kernel
theorem dX8_approve_44 : decode cX8_approve 44 = .ok (.iaload, 1) := by decide +kernel
theorem dX8_approve_45 : decode cX8_approve 45 = .ok (.iload_n 2, 1) := by decide +kernel
theorem dX8_approve_46 : decode cX8_approve 46 = .ok (.if_icmp .eq 25, 3) := by decide +kernel
theorem dX8_approve_49 : decode cX8_approve 49 = .ok (.aload_n 0, 1) := by decide +kernel
theorem dX8_approve_50 : decode cX8_approve 50 = .ok (.getfield 88, 3) := by decide +kernel
theorem dX8_approve_53 : decode cX8_approve 53 = .ok (.iload_n 1, 1) := by decide +kernel
theorem dX8_approve_54 : decode cX8_approve 54 = .ok (.iaload, 1) := by decide +kernel
theorem dX8_approve_55 : decode cX8_approve 55 = .ok (.iload_n 2, 1) := by decide +kernel
theorem dX8_approve_56 : decode cX8_approve 56 = .ok (.ishr, 1) := by decide +kernel
theorem dX8_approve_57 : decode cX8_approve 57 = .ok (.iconst 1, 1) := by decide +kernel
theorem dX8_approve_58 : decode cX8_approve 58 = .ok (.iand, 1) := by decide +kernel
theorem dX8_approve_59 : decode cX8_approve 59 = .ok (.iconst 1, 1) := by decide +kernel
theorem dX8_approve_60 : decode cX8_approve 60 = .ok (.if_icmp .eq 11, 3) := by decide +kernel
theorem dX8_approve_63 : decode cX8_approve 63 = .ok (.aload_n 0, 1) := by decide +kernel
theorem dX8_approve_64 : decode cX8_approve 64 = .ok (.iconst 1, 1) := by decide +kernel
theorem dX8_approve_65 : decode cX8_approve 65 = .ok (.invokevirtual 149, 3) := by decide +kernel
theorem dX8_approve_68 : decode cX8_approve 68 = .ok (.ifCond .ne 7, 3) := by decide +kernel
theorem dX8_approve_71 : decode cX8_approve 71 = .ok (.iconst 2, 1) := by decide +kernel
theorem dX8_approve_72 : decode cX8_approve 72 = .ok (.goto 4, 3) := by decide +kernel
theorem dX8_approve_75 : decode cX8_approve 75 = .ok (.iconst 0, 1) := by decide +kernel
theorem dX8_approve_76 : decode cX8_approve 76 = .ok (.putfield 100, 3) := by decide +kernel
theorem dX8_approve_79 : decode cX8_approve 79 = .ok (.aload_n 0, 1) := by decide +kernel
theorem dX8_approve_80 : decode cX8_approve 80 = .ok (.getfield 100, 3) := by decide +kernel
theorem dX8_approve_83 : decode cX8_approve 83 = .ok (.ifCond .le 5, 3) := by decide +kernel
theorem dX8_approve_86 : decode cX8_approve 86 = .ok (.iconst 0, 1) := by decide +kernel
theorem dX8_approve_87 : decode cX8_approve 87 = .ok (.ireturn, 1) := by decide +kernel
theorem dX8_approve_88 : decode cX8_approve 88 = .ok (.aload_n 0, 1) := by decide +kernel
theorem dX8_approve_89 : decode cX8_approve 89 = .ok (.getfield 88, 3) := by decide +kernel
theorem dX8_approve_92 : decode cX8_approve 92 = .ok (.iload_n 1, 1) := by decide +kernel
theorem dX8_approve_93 : decode cX8_approve 93 = .ok (.aload_n 0, 1) := by decide +kernel
theorem dX8_approve_94 : decode cX8_approve 94 = .ok (.getfield 88, 3) := by decide +kernel
theorem dX8_approve_97 : decode cX8_approve 97 = .ok (.iload_n 1, 1) := by decide +kernel
theorem dX8_approve_98 : decode cX8_approve 98 = .ok (.iaload, 1) := by decide +kernel
theorem dX8_approve_99 : decode cX8_approve 99 = .ok (.iconst 1, 1) := by decide +kernel
theorem dX8_approve_100 : decode cX8_approve 100 = .ok (.iload_n 2, 1) := by decide +kernel
theorem dX8_approve_101 : decode cX8_approve 101 = .ok (.ishl, 1) := by decide +kernel
theorem dX8_approve_102 : decode cX8_approve 102 = .ok (.ior, 1) := by decide +kernel
theorem dX8_approve_103 : decode cX8_approve 103 = .ok (.iastore, 1) := by decide +kernel
theorem dX8_approve_104 : decode cX8_approve 104 = .ok (.aload_n 0, 1) := by decide +kernel
theorem dX8_approve_105 : decode cX8_approve 105 = .ok (.bipush 9, 2) := by decide +kernel
theorem dX8_approve_107 : decode cX8_approve 107 = .ok (.iload_n 1, 1) := by decide +kernel
theorem dX8_approve_108 : decode cX8_approve 108 = .ok (.iload_n 2, 1) := by decide +kernel
theorem dX8_approve_109 : decode cX8_approve 109 = .ok (.iconst 0, 1) := by decide +kernel
theorem dX8_approve_110 : decode cX8_approve 110 = .ok (.invokevirtual 153, 3) := by decide +kernel
theorem dX8_approve_113 : decode cX8_approve 113 = .ok (.aload_n 0, 1) := by decide +kernel
theorem dX8_approve_114 : decode cX8_approve 114 = .ok (.getfield 88, 3) := by decide +kernel
theorem dX8_approve_117 : decode cX8_approve 117 = .ok (.iload_n 1, 1) := by decide +kernel
theorem dX8_approve_118 : decode cX8_approve 118 = .ok (.iaload, 1) := by decide +kernel
theorem dX8_approve_119 : decode cX8_approve 119 = .ok (.invokestatic 200, 3) := by decide +kernel
theorem dX8_approve_122 : decode cX8_approve 122 = .ok (.ireturn, 1) := by decide +kernel
theorem dX8_placeOn_0 : decode cX8_placeOn 0 = .ok (.iconst (-1), 1) := by decide +kernel
theorem dX8_placeOn_1 : decode cX8_placeOn 1 = .ok (.istore_n 3, 1) := by decide +kernel
theorem dX8_placeOn_2 : decode cX8_placeOn 2 = .ok (.iconst 0, 1) := by decide +kernel
theorem dX8_placeOn_3 : decode cX8_placeOn 3 = .ok (.istore 4, 2) := by decide +kernel
theorem dX8_placeOn_5 : decode cX8_placeOn 5 = .ok (.iload 4, 2) := by decide +kernel
theorem dX8_placeOn_7 : decode cX8_placeOn 7 = .ok (.aload_n 0, 1) := by decide +kernel
theorem dX8_placeOn_8 : decode cX8_placeOn 8 = .ok (.getfield 82, 3) := by decide +kernel
theorem dX8_placeOn_11 : decode cX8_placeOn 11 = .ok (.iload_n 1, 1) := by decide +kernel
theorem dX8_placeOn_12 : decode cX8_placeOn 12 = .ok (.iaload, 1) := by decide +kernel
theorem dX8_placeOn_13 : decode cX8_placeOn 13 = .ok (.if_icmp .ge 32, 3) := by decide +kernel
theorem dX8_placeOn_16 : decode cX8_placeOn 16 = .ok (.aload_n 0, 1) := by decide +kernel
theorem dX8_placeOn_17 : decode cX8_placeOn 17 = .ok (.getfield 79, 3) := by decide +kernel
theorem dX8_placeOn_20 : decode cX8_placeOn 20 = .ok (.bipush 64, 2) := by decide +kernel
theorem dX8_placeOn_22 : decode cX8_placeOn 22 = .ok (.iload_n 1, 1) := by decide +kernel
theorem dX8_placeOn_23 : decode cX8_placeOn 23 = .ok (.imul, 1) := by decide +kernel
theorem dX8_placeOn_24 : decode cX8_placeOn 24 = .ok (.iload 4, 2) := by decide +kernel
theorem dX8_placeOn_26 : decode cX8_placeOn 26 = .ok (.iadd, 1) := by decide +kernel
theorem dX8_placeOn_27 : decode cX8_placeOn 27 = .ok (.iaload, 1) := by decide +kernel
theorem dX8_placeOn_28 : decode cX8_placeOn 28 = .ok (.iload_n 2, 1) := by decide +kernel
theorem dX8_placeOn_29 : decode cX8_placeOn 29 = .ok (.if_icmp .ne 8, 3) := by decide +kernel
theorem dX8_placeOn_32 : decode cX8_placeOn 32 = .ok (.iload 4, 2) := by decide +kernel
theorem dX8_placeOn_34 : decode cX8_placeOn 34 = .ok (.goto 4, 3) := by decide +kernel
theorem dX8_placeOn_37 : decode cX8_placeOn 37 = .ok (.iload_n 3, 1) := by decide +kernel
theorem dX8_placeOn_38 : decode cX8_placeOn 38 = .ok (.istore_n 3, 1) := by decide +kernel
theorem dX8_placeOn_39 : decode cX8_placeOn 39 = .ok (.iinc 4 1, 3) := by decide +kernel
theorem dX8_placeOn_42 : decode cX8_placeOn 42 = .ok (.goto (-37), 3) := by decide +kernel
theorem dX8_placeOn_45 : decode cX8_placeOn 45 = .ok (.iload_n 3, 1) := by decide +kernel
theorem dX8_placeOn_46 : decode cX8_placeOn 46 = .ok (.ireturn, 1) := by decide +kernel
set_option maxRecDepth 20000 in
theorem ggX8_strike_X8_noList : GoodIn wsX8_strike wsX8_noList := goodIn_r _ [9, 10, 11, 12, 8, 13, 39, 40, 41, 42, 43, 44, 45, 46, 47, 48, 49, 50, 51, 52, 53, 54, 55, 56, 57, 58, 59, 60, 61, 62, 63, 64, 65, 66, 67, 68, 69, 70, 71, 72] (by decide +kernel) (by decide +kernel)
set_option maxRecDepth 20000 in
theorem gX8_strike_X8_noList : GoodIn wsX8_strike (wsV RX8 197 RX8 yX8_noList wsX8_noList) := goodIn_app (goodIn_of _ (by decide +kernel)) ggX8_strike_X8_noList
set_option maxRecDepth 20000 in
theorem ggX8_strike_X8_placeOn : GoodIn wsX8_strike wsX8_placeOn := goodIn_r _ [17, 3, 4, 39, 40, 41, 42, 43, 44, 45, 46, 47, 48, 49, 50, 51, 52, 53, 54, 55, 56, 57, 58, 59, 60, 61, 62, 63, 64, 65, 66, 67, 68, 69, 70, 71, 72] (by decide +kernel) (by decide +kernel)
set_option maxRecDepth 20000 in
theorem gX8_strike_X8_placeOn : GoodIn wsX8_strike (wsV RX8 203 RX8 yX8_placeOn wsX8_placeOn) := goodIn_app (goodIn_of _ (by decide +kernel)) ggX8_strike_X8_placeOn
set_option maxRecDepth 20000 in
theorem ggX8_strike_X8_hasRoom : GoodIn wsX8_strike wsX8_hasRoom := goodIn_r _ [21, 22, 39, 40, 41, 42, 43, 44, 45, 46, 47, 48, 49, 50, 51, 52, 53, 54, 55, 56, 57, 58, 59, 60, 61, 62, 63, 64, 65, 66, 67, 68, 69, 70, 71, 72] (by decide +kernel) (by decide +kernel)
set_option maxRecDepth 20000 in
theorem gX8_strike_X8_hasRoom : GoodIn wsX8_strike (wsV RX8 149 RX8 yX8_hasRoom wsX8_hasRoom) := goodIn_app (goodIn_of _ (by decide +kernel)) ggX8_strike_X8_hasRoom
set_option maxRecDepth 20000 in
theorem ggX8_strike_X8_write : GoodIn wsX8_strike wsX8_write := goodIn_r _ [26, 27, 22, 28, 29, 30, 31, 8, 32, 33, 34, 35, 36, 37, 38, 11, 12, 13, 39, 40, 41, 42, 43, 44, 45, 46, 47, 48, 49, 50, 51, 52, 53, 54, 55, 56, 57, 58, 59, 60, 61, 62, 63, 64, 65, 66, 67, 68, 69, 70, 71, 72] (by decide +kernel) (by decide +kernel)
set_option maxRecDepth 20000 in
theorem gX8_strike_X8_write : GoodIn wsX8_strike (wsV RX8 153 RX8 yX8_write wsX8_write) := goodIn_app (goodIn_of _ (by decide +kernel)) ggX8_strike_X8_write
theorem dX8_strike_0 : decode cX8_strike 0 = .ok (.aload_n 0, 1) := by decide +kernel
theorem dX8_strike_1 : decode cX8_strike 1 = .ok (.iload_n 1, 1) := by decide +kernel
theorem dX8_strike_2 : decode cX8_strike 2 = .ok (.invokevirtual 197, 3) := by decide +kernel
theorem dX8_strike_5 : decode cX8_strike 5 = .ok (.ifCond .eq 7, 3) := by decide +kernel
theorem dX8_strike_8 : decode cX8_strike 8 = .ok (.iconst (-1), 1) := by decide +kernel
theorem dX8_strike_9 : decode cX8_strike 9 = .ok (.goto 9, 3) := by decide +kernel
theorem dX8_strike_12 : decode cX8_strike 12 = .ok (.aload_n 0, 1) := by decide +kernel
theorem dX8_strike_13 : decode cX8_strike 13 = .ok (.iload_n 1, 1) := by decide +kernel
theorem dX8_strike_14 : decode cX8_strike 14 = .ok (.iload_n 2, 1) := by decide +kernel
theorem dX8_strike_15 : decode cX8_strike 15 = .ok (.invokevirtual 203, 3) := by decide +kernel
theorem dX8_strike_18 : decode cX8_strike 18 = .ok (.istore_n 3, 1) := by decide +kernel
theorem dX8_strike_19 : decode cX8_strike 19 = .ok (.aload_n 0, 1) := by decide +kernel
theorem dX8_strike_20 : decode cX8_strike 20 = .ok (.iload_n 3, 1) := by decide +kernel
theorem dX8_strike_21 : decode cX8_strike 21 = .ok (.iconst (-1), 1) := by decide +kernel
theorem dX8_strike_22 : decode cX8_strike 22 = .ok (.if_icmp .ne 7, 3) := by decide +kernel
theorem dX8_strike_25 : decode cX8_strike 25 = .ok (.iconst 1, 1) := by decide +kernel
theorem dX8_strike_26 : decode cX8_strike 26 = .ok (.goto 25, 3) := by decide +kernel
theorem dX8_strike_29 : decode cX8_strike 29 = .ok (.aload_n 0, 1) := by decide +kernel
theorem dX8_strike_30 : decode cX8_strike 30 = .ok (.getfield 91, 3) := by decide +kernel
theorem dX8_strike_33 : decode cX8_strike 33 = .ok (.iload_n 1, 1) := by decide +kernel
theorem dX8_strike_34 : decode cX8_strike 34 = .ok (.baload, 1) := by decide +kernel
theorem dX8_strike_35 : decode cX8_strike 35 = .ok (.ifCond .ne 11, 3) := by decide +kernel
theorem dX8_strike_38 : decode cX8_strike 38 = .ok (.aload_n 0, 1) := by decide +kernel
theorem dX8_strike_39 : decode cX8_strike 39 = .ok (.iconst 1, 1) := by decide +kernel
theorem dX8_strike_40 : decode cX8_strike 40 = .ok (.invokevirtual 149, 3) := by decide +kernel
theorem dX8_strike_43 : decode cX8_strike 43 = .ok (.ifCond .ne 7, 3) := by decide +kernel
theorem dX8_strike_46 : decode cX8_strike 46 = .ok (.iconst 2, 1) := by decide +kernel
theorem dX8_strike_47 : decode cX8_strike 47 = .ok (.goto 4, 3) := by decide +kernel
theorem dX8_strike_50 : decode cX8_strike 50 = .ok (.iconst 0, 1) := by decide +kernel
theorem dX8_strike_51 : decode cX8_strike 51 = .ok (.putfield 100, 3) := by decide +kernel
theorem dX8_strike_54 : decode cX8_strike 54 = .ok (.aload_n 0, 1) := by decide +kernel
theorem dX8_strike_55 : decode cX8_strike 55 = .ok (.getfield 100, 3) := by decide +kernel
theorem dX8_strike_58 : decode cX8_strike 58 = .ok (.ifCond .le 5, 3) := by decide +kernel
theorem dX8_strike_61 : decode cX8_strike 61 = .ok (.iconst 0, 1) := by decide +kernel
theorem dX8_strike_62 : decode cX8_strike 62 = .ok (.ireturn, 1) := by decide +kernel
theorem dX8_strike_63 : decode cX8_strike 63 = .ok (.aload_n 0, 1) := by decide +kernel
theorem dX8_strike_64 : decode cX8_strike 64 = .ok (.getfield 82, 3) := by decide +kernel
theorem dX8_strike_67 : decode cX8_strike 67 = .ok (.iload_n 1, 1) := by decide +kernel
theorem dX8_strike_68 : decode cX8_strike 68 = .ok (.dup2, 1) := by decide +kernel
theorem dX8_strike_69 : decode cX8_strike 69 = .ok (.iaload, 1) := by decide +kernel
theorem dX8_strike_70 : decode cX8_strike 70 = .ok (.iconst 1, 1) := by decide +kernel
theorem dX8_strike_71 : decode cX8_strike 71 = .ok (.isub, 1) := by decide +kernel
theorem dX8_strike_72 : decode cX8_strike 72 = .ok (.iastore, 1) := by decide +kernel
theorem dX8_strike_73 : decode cX8_strike 73 = .ok (.iload_n 3, 1) := by decide +kernel
theorem dX8_strike_74 : decode cX8_strike 74 = .ok (.istore 4, 2) := by decide +kernel
theorem dX8_strike_76 : decode cX8_strike 76 = .ok (.iload 4, 2) := by decide +kernel
theorem dX8_strike_78 : decode cX8_strike 78 = .ok (.aload_n 0, 1) := by decide +kernel
theorem dX8_strike_79 : decode cX8_strike 79 = .ok (.getfield 82, 3) := by decide +kernel
theorem dX8_strike_82 : decode cX8_strike 82 = .ok (.iload_n 1, 1) := by decide +kernel
theorem dX8_strike_83 : decode cX8_strike 83 = .ok (.iaload, 1) := by decide +kernel
theorem dX8_strike_84 : decode cX8_strike 84 = .ok (.if_icmp .ge 35, 3) := by decide +kernel
theorem dX8_strike_87 : decode cX8_strike 87 = .ok (.aload_n 0, 1) := by decide +kernel
theorem dX8_strike_88 : decode cX8_strike 88 = .ok (.getfield 79, 3) := by decide +kernel
theorem dX8_strike_91 : decode cX8_strike 91 = .ok (.bipush 64, 2) := by decide +kernel
theorem dX8_strike_93 : decode cX8_strike 93 = .ok (.iload_n 1, 1) := by decide +kernel
theorem dX8_strike_94 : decode cX8_strike 94 = .ok (.imul, 1) := by decide +kernel
theorem dX8_strike_95 : decode cX8_strike 95 = .ok (.iload 4, 2) := by decide +kernel
theorem dX8_strike_97 : decode cX8_strike 97 = .ok (.iadd, 1) := by decide +kernel
theorem dX8_strike_98 : decode cX8_strike 98 = .ok (.aload_n 0, 1) := by decide +kernel
theorem dX8_strike_99 : decode cX8_strike 99 = .ok (.getfield 79, 3) := by decide +kernel
theorem dX8_strike_102 : decode cX8_strike 102 = .ok (.bipush 64, 2) := by decide +kernel
theorem dX8_strike_104 : decode cX8_strike 104 = .ok (.iload_n 1, 1) := by decide +kernel
theorem dX8_strike_105 : decode cX8_strike 105 = .ok (.imul, 1) := by decide +kernel
theorem dX8_strike_106 : decode cX8_strike 106 = .ok (.iload 4, 2) := by decide +kernel
theorem dX8_strike_108 : decode cX8_strike 108 = .ok (.iadd, 1) := by decide +kernel
theorem dX8_strike_109 : decode cX8_strike 109 = .ok (.iconst 1, 1) := by decide +kernel
theorem dX8_strike_110 : decode cX8_strike 110 = .ok (.iadd, 1) := by decide +kernel
theorem dX8_strike_111 : decode cX8_strike 111 = .ok (.iaload, 1) := by decide +kernel
theorem dX8_strike_112 : decode cX8_strike 112 = .ok (.iastore, 1) := by decide +kernel
theorem dX8_strike_113 : decode cX8_strike 113 = .ok (.iinc 4 1, 3) := by decide +kernel
theorem dX8_strike_116 : decode cX8_strike 116 = .ok (.goto (-40), 3) := by decide +kernel
theorem dX8_strike_119 : decode cX8_strike 119 = .ok (.aload_n 0, 1) := by decide +kernel
theorem dX8_strike_120 : decode cX8_strike 120 = .ok (.bipush 10, 2) := by decide +kernel
theorem dX8_strike_122 : decode cX8_strike 122 = .ok (.iload_n 1, 1) := by decide +kernel
theorem dX8_strike_123 : decode cX8_strike 123 = .ok (.iload_n 2, 1) := by decide +kernel
theorem dX8_strike_124 : decode cX8_strike 124 = .ok (.iconst 0, 1) := by decide +kernel
theorem dX8_strike_125 : decode cX8_strike 125 = .ok (.invokevirtual 153, 3) := by decide +kernel
theorem dX8_strike_128 : decode cX8_strike 128 = .ok (.aload_n 0, 1) := by decide +kernel
theorem dX8_strike_129 : decode cX8_strike 129 = .ok (.getfield 82, 3) := by decide +kernel
theorem dX8_strike_132 : decode cX8_strike 132 = .ok (.iload_n 1, 1) := by decide +kernel
theorem dX8_strike_133 : decode cX8_strike 133 = .ok (.iaload, 1) := by decide +kernel
theorem dX8_strike_134 : decode cX8_strike 134 = .ok (.ireturn, 1) := by decide +kernel
set_option maxRecDepth 20000 in
theorem ggX8_carry_X8_noList : GoodIn wsX8_carry wsX8_noList := goodIn_r _ [12, 13, 14, 15, 11, 16, 109, 110, 111, 112, 113, 114, 115, 116, 117, 118, 119, 120, 121, 122, 123, 124, 125, 126, 127, 128, 129, 130, 131, 132, 133, 134, 135, 136, 137, 138, 139, 140, 141, 142] (by decide +kernel) (by decide +kernel)
set_option maxRecDepth 20000 in
theorem gX8_carry_X8_noList : GoodIn wsX8_carry (wsV RX8 197 RX8 yX8_noList wsX8_noList) := goodIn_app (goodIn_of _ (by decide +kernel)) ggX8_carry_X8_noList
set_option maxRecDepth 20000 in
theorem ggX8_carry_X8_noOfficer : GoodIn wsX8_carry wsX8_noOfficer := goodIn_r _ [20, 14, 15, 11, 16] (by decide +kernel) (by decide +kernel)
set_option maxRecDepth 20000 in
theorem gX8_carry_X8_noOfficer : GoodIn wsX8_carry (wsV RX8 191 RX8 yX8_noOfficer wsX8_noOfficer) := goodIn_app (goodIn_of _ (by decide +kernel)) ggX8_carry_X8_noOfficer
set_option maxRecDepth 20000 in
theorem ggX8_carry_X8_mayGo : GoodIn wsX8_carry wsX8_mayGo := goodIn_r _ [24, 7, 25, 26, 27, 11, 28, 29, 30, 31, 32, 33, 34, 35, 36, 37, 38, 39, 40, 41, 42, 43, 44, 45, 46, 47, 48, 49, 50, 51, 52, 53, 54, 55, 56, 57, 58, 59, 60, 61, 62, 63, 64, 65, 66, 67, 68, 69, 70, 71, 72, 73, 74, 14, 15, 16, 109, 110, 111, 112, 113, 114, 115, 116, 117, 118, 119, 120, 121, 122, 123, 124, 125, 126, 127, 128, 129, 130, 131, 132, 133, 134, 135, 136, 137, 138, 139, 140, 141, 142] (by decide +kernel) (by decide +kernel)
set_option maxRecDepth 20000 in
theorem gX8_carry_X8_mayGo : GoodIn wsX8_carry (wsV RX8 188 RX8 yX8_mayGo wsX8_mayGo) := goodIn_app (goodIn_of _ (by decide +kernel)) ggX8_carry_X8_mayGo
set_option maxRecDepth 20000 in
theorem ggX8_carry_X8_isDay : GoodIn wsX8_carry wsX8_isDay := goodIn_r _ [78, 79, 6, 14, 15, 11, 16, 109, 110, 111, 112, 113, 114, 115, 116, 117, 118, 119, 120, 121, 122, 123, 124, 125, 126, 127, 128, 129, 130, 131, 132, 133, 134, 135, 136, 137, 138, 139, 140, 141, 142] (by decide +kernel) (by decide +kernel)
set_option maxRecDepth 20000 in
theorem gX8_carry_X8_isDay : GoodIn wsX8_carry (wsV RX8 160 RX8 yX8_isDay wsX8_isDay) := goodIn_app (goodIn_of _ (by decide +kernel)) ggX8_carry_X8_isDay
set_option maxRecDepth 20000 in
theorem ggX8_carry_X8_bits : GoodIn wsX8_carry wsX8_bits := goodIn_r _ [82] (by decide +kernel) (by decide +kernel)
set_option maxRecDepth 20000 in
theorem gX8_carry_X8_bits : GoodIn wsX8_carry (va_wsS RX8 200 yX8_bits wsX8_bits) := goodIn_app (goodIn_of _ (by decide +kernel)) ggX8_carry_X8_bits
set_option maxRecDepth 20000 in
theorem ggX8_carry_X8_hasRight : GoodIn wsX8_carry wsX8_hasRight := goodIn_r _ [86, 87, 109, 110, 111, 112, 113, 114, 115, 116, 117, 118, 119, 120, 121, 122, 123, 124, 125, 126, 127, 128, 129, 130, 131, 132, 133, 134, 135, 136, 137, 138, 139, 140, 141, 142] (by decide +kernel) (by decide +kernel)
set_option maxRecDepth 20000 in
theorem gX8_carry_X8_hasRight : GoodIn wsX8_carry (wsV RX8 194 RX8 yX8_hasRight wsX8_hasRight) := goodIn_app (goodIn_of _ (by decide +kernel)) ggX8_carry_X8_hasRight
set_option maxRecDepth 20000 in
theorem ggX8_carry_X8_hasRoom : GoodIn wsX8_carry wsX8_hasRoom := goodIn_r _ [91, 92, 109, 110, 111, 112, 113, 114, 115, 116, 117, 118, 119, 120, 121, 122, 123, 124, 125, 126, 127, 128, 129, 130, 131, 132, 133, 134, 135, 136, 137, 138, 139, 140, 141, 142] (by decide +kernel) (by decide +kernel)
set_option maxRecDepth 20000 in
theorem gX8_carry_X8_hasRoom : GoodIn wsX8_carry (wsV RX8 149 RX8 yX8_hasRoom wsX8_hasRoom) := goodIn_app (goodIn_of _ (by decide +kernel)) ggX8_carry_X8_hasRoom
set_option maxRecDepth 20000 in
theorem ggX8_carry_X8_write : GoodIn wsX8_carry wsX8_write := goodIn_r _ [96, 97, 92, 98, 99, 100, 101, 11, 102, 103, 104, 105, 106, 107, 108, 14, 15, 16, 109, 110, 111, 112, 113, 114, 115, 116, 117, 118, 119, 120, 121, 122, 123, 124, 125, 126, 127, 128, 129, 130, 131, 132, 133, 134, 135, 136, 137, 138, 139, 140, 141, 142] (by decide +kernel) (by decide +kernel)
set_option maxRecDepth 20000 in
theorem gX8_carry_X8_write : GoodIn wsX8_carry (wsV RX8 153 RX8 yX8_write wsX8_write) := goodIn_app (goodIn_of _ (by decide +kernel)) ggX8_carry_X8_write
theorem dX8_carry_0 : decode cX8_carry 0 = .ok (.aload_n 0, 1) := by decide +kernel
theorem dX8_carry_1 : decode cX8_carry 1 = .ok (.iload_n 1, 1) := by decide +kernel
theorem dX8_carry_2 : decode cX8_carry 2 = .ok (.invokevirtual 197, 3) := by decide +kernel
theorem dX8_carry_5 : decode cX8_carry 5 = .ok (.ifCond .ne 15, 3) := by decide +kernel
theorem dX8_carry_8 : decode cX8_carry 8 = .ok (.aload_n 0, 1) := by decide +kernel
theorem dX8_carry_9 : decode cX8_carry 9 = .ok (.iload_n 2, 1) := by decide +kernel
theorem dX8_carry_10 : decode cX8_carry 10 = .ok (.invokevirtual 191, 3) := by decide +kernel
theorem dX8_carry_13 : decode cX8_carry 13 = .ok (.ifCond .ne 7, 3) := by decide +kernel
theorem dX8_carry_16 : decode cX8_carry 16 = .ok (.iconst 1, 1) := by decide +kernel
theorem dX8_carry_17 : decode cX8_carry 17 = .ok (.goto 4, 3) := by decide +kernel
theorem dX8_carry_20 : decode cX8_carry 20 = .ok (.iconst 0, 1) := by decide +kernel
theorem dX8_carry_21 : decode cX8_carry 21 = .ok (.istore 4, 2) := by decide +kernel
theorem dX8_carry_23 : decode cX8_carry 23 = .ok (.iconst 0, 1) := by decide +kernel
theorem dX8_carry_24 : decode cX8_carry 24 = .ok (.istore 5, 2) := by decide +kernel
theorem dX8_carry_26 : decode cX8_carry 26 = .ok (.iconst 0, 1) := by decide +kernel
theorem dX8_carry_27 : decode cX8_carry 27 = .ok (.istore 6, 2) := by decide +kernel
theorem dX8_carry_29 : decode cX8_carry 29 = .ok (.iload 4, 2) := by decide +kernel
theorem dX8_carry_31 : decode cX8_carry 31 = .ok (.ifCond .eq 51, 3) := by decide +kernel
theorem dX8_carry_34 : decode cX8_carry 34 = .ok (.iload 6, 2) := by decide +kernel
theorem dX8_carry_36 : decode cX8_carry 36 = .ok (.aload_n 0, 1) := by decide +kernel
theorem dX8_carry_37 : decode cX8_carry 37 = .ok (.getfield 82, 3) := by decide +kernel
theorem dX8_carry_40 : decode cX8_carry 40 = .ok (.iload_n 1, 1) := by decide +kernel
theorem dX8_carry_41 : decode cX8_carry 41 = .ok (.iaload, 1) := by decide +kernel
theorem dX8_carry_42 : decode cX8_carry 42 = .ok (.if_icmp .ge 40, 3) := by decide +kernel
theorem dX8_carry_45 : decode cX8_carry 45 = .ok (.aload_n 0, 1) := by decide +kernel
theorem dX8_carry_46 : decode cX8_carry 46 = .ok (.aload_n 0, 1) := by decide +kernel
theorem dX8_carry_47 : decode cX8_carry 47 = .ok (.getfield 79, 3) := by decide +kernel
theorem dX8_carry_50 : decode cX8_carry 50 = .ok (.bipush 64, 2) := by decide +kernel
theorem dX8_carry_52 : decode cX8_carry 52 = .ok (.iload_n 1, 1) := by decide +kernel
theorem dX8_carry_53 : decode cX8_carry 53 = .ok (.imul, 1) := by decide +kernel
theorem dX8_carry_54 : decode cX8_carry 54 = .ok (.iload 6, 2) := by decide +kernel
theorem dX8_carry_56 : decode cX8_carry 56 = .ok (.iadd, 1) := by decide +kernel
theorem dX8_carry_57 : decode cX8_carry 57 = .ok (.iaload, 1) := by decide +kernel
theorem dX8_carry_58 : decode cX8_carry 58 = .ok (.iload_n 3, 1) := by decide +kernel
theorem dX8_carry_59 : decode cX8_carry 59 = .ok (.invokevirtual 188, 3) := by decide +kernel
theorem dX8_carry_62 : decode cX8_carry 62 = .ok (.ifCond .eq 10, 3) := by decide +kernel
theorem dX8_carry_65 : decode cX8_carry 65 = .ok (.iload 5, 2) := by decide +kernel
theorem dX8_carry_67 : decode cX8_carry 67 = .ok (.iconst 1, 1) := by decide +kernel
theorem dX8_carry_68 : decode cX8_carry 68 = .ok (.iadd, 1) := by decide +kernel
theorem dX8_carry_69 : decode cX8_carry 69 = .ok (.goto 5, 3) := by decide +kernel
theorem dX8_carry_72 : decode cX8_carry 72 = .ok (.iload 5, 2) := by decide +kernel
theorem dX8_carry_74 : decode cX8_carry 74 = .ok (.istore 5, 2) := by decide +kernel
theorem dX8_carry_76 : decode cX8_carry 76 = .ok (.iinc 6 1, 3) := by decide +kernel
theorem dX8_carry_79 : decode cX8_carry 79 = .ok (.goto (-50), 3) := by decide +kernel
theorem dX8_carry_82 : decode cX8_carry 82 = .ok (.aload_n 0, 1) := by decide +kernel
theorem dX8_carry_83 : decode cX8_carry 83 = .ok (.iload 4, 2) := by decide +kernel
theorem dX8_carry_85 : decode cX8_carry 85 = .ok (.ifCond .ne 7, 3) := by decide +kernel
theorem dX8_carry_88 : decode cX8_carry 88 = .ok (.iconst 1, 1) := by decide +kernel
theorem dX8_carry_89 : decode cX8_carry 89 = .ok (.goto 62, 3) := by decide +kernel
theorem dX8_carry_92 : decode cX8_carry 92 = .ok (.aload_n 0, 1) := by decide +kernel
theorem dX8_carry_93 : decode cX8_carry 93 = .ok (.iload_n 3, 1) := by decide +kernel
theorem dX8_carry_94 : decode cX8_carry 94 = .ok (.invokevirtual 160, 3) := by decide +kernel
theorem dX8_carry_97 : decode cX8_carry 97 = .ok (.ifCond .ne 7, 3) := by decide +kernel
theorem dX8_carry_100 : decode cX8_carry 100 = .ok (.iconst 2, 1) := by decide +kernel
theorem dX8_carry_101 : decode cX8_carry 101 = .ok (.goto 50, 3) := by decide +kernel
theorem dX8_carry_104 : decode cX8_carry 104 = .ok (.aload_n 0, 1) := by decide +kernel
theorem dX8_carry_105 : decode cX8_carry 105 = .ok (.getfield 91, 3) := by decide +kernel
theorem dX8_carry_108 : decode cX8_carry 108 = .ok (.iload_n 1, 1) := by decide +kernel
theorem dX8_carry_109 : decode cX8_carry 109 = .ok (.baload, 1) := by decide +kernel
theorem dX8_carry_110 : decode cX8_carry 110 = .ok (.ifCond .ne 36, 3) := by decide +kernel
theorem dX8_carry_113 : decode cX8_carry 113 = .ok (.aload_n 0, 1) := by decide +kernel
theorem dX8_carry_114 : decode cX8_carry 114 = .ok (.getfield 88, 3) := by decide +kernel
theorem dX8_carry_117 : decode cX8_carry 117 = .ok (.iload_n 1, 1) := by decide +kernel
theorem dX8_carry_118 : decode cX8_carry 118 = .ok (.iaload, 1) := by decide +kernel
theorem dX8_carry_119 : decode cX8_carry 119 = .ok (.invokestatic 200, 3) := by decide +kernel
theorem dX8_carry_122 : decode cX8_carry 122 = .ok (.iconst 2, 1) := by decide +kernel
theorem dX8_carry_123 : decode cX8_carry 123 = .ok (.if_icmp .lt 23, 3) := by decide +kernel
theorem dX8_carry_126 : decode cX8_carry 126 = .ok (.aload_n 0, 1) := by decide +kernel
theorem dX8_carry_127 : decode cX8_carry 127 = .ok (.iload_n 2, 1) := by decide +kernel
theorem dX8_carry_128 : decode cX8_carry 128 = .ok (.iconst 4, 1) := by decide +kernel
theorem dX8_carry_129 : decode cX8_carry 129 = .ok (.invokevirtual 194, 3) := by decide +kernel
theorem dX8_carry_132 : decode cX8_carry 132 = .ok (.ifCond .eq 14, 3) := by decide +kernel
theorem dX8_carry_135 : decode cX8_carry 135 = .ok (.aload_n 0, 1) := by decide +kernel
theorem dX8_carry_136 : decode cX8_carry 136 = .ok (.iload 5, 2) := by decide +kernel
theorem dX8_carry_138 : decode cX8_carry 138 = .ok (.iconst 1, 1) := by decide +kernel
theorem dX8_carry_139 : decode cX8_carry 139 = .ok (.iadd, 1) := by decide +kernel
theorem dX8_carry_140 : decode cX8_carry 140 = .ok (.invokevirtual 149, 3) := by decide +kernel
theorem dX8_carry_143 : decode cX8_carry 143 = .ok (.ifCond .ne 7, 3) := by decide +kernel
theorem dX8_carry_146 : decode cX8_carry 146 = .ok (.iconst 3, 1) := by decide +kernel
theorem dX8_carry_147 : decode cX8_carry 147 = .ok (.goto 4, 3) := by decide +kernel
theorem dX8_carry_150 : decode cX8_carry 150 = .ok (.iconst 0, 1) := by decide +kernel
theorem dX8_carry_151 : decode cX8_carry 151 = .ok (.putfield 100, 3) := by decide +kernel
theorem dX8_carry_154 : decode cX8_carry 154 = .ok (.aload_n 0, 1) := by decide +kernel
theorem dX8_carry_155 : decode cX8_carry 155 = .ok (.getfield 100, 3) := by decide +kernel
theorem dX8_carry_158 : decode cX8_carry 158 = .ok (.ifCond .le 5, 3) := by decide +kernel
theorem dX8_carry_161 : decode cX8_carry 161 = .ok (.iconst 0, 1) := by decide +kernel
theorem dX8_carry_162 : decode cX8_carry 162 = .ok (.ireturn, 1) := by decide +kernel
theorem dX8_carry_163 : decode cX8_carry 163 = .ok (.aload_n 0, 1) := by decide +kernel
theorem dX8_carry_164 : decode cX8_carry 164 = .ok (.getfield 91, 3) := by decide +kernel
theorem dX8_carry_167 : decode cX8_carry 167 = .ok (.iload_n 1, 1) := by decide +kernel
theorem dX8_carry_168 : decode cX8_carry 168 = .ok (.iconst 1, 1) := by decide +kernel
theorem dX8_carry_169 : decode cX8_carry 169 = .ok (.bastore, 1) := by decide +kernel
theorem dX8_carry_170 : decode cX8_carry 170 = .ok (.aload_n 0, 1) := by decide +kernel
theorem dX8_carry_171 : decode cX8_carry 171 = .ok (.iload_n 3, 1) := by decide +kernel
theorem dX8_carry_172 : decode cX8_carry 172 = .ok (.putfield 126, 3) := by decide +kernel
theorem dX8_carry_175 : decode cX8_carry 175 = .ok (.iconst 0, 1) := by decide +kernel
theorem dX8_carry_176 : decode cX8_carry 176 = .ok (.istore 6, 2) := by decide +kernel
theorem dX8_carry_178 : decode cX8_carry 178 = .ok (.iload 6, 2) := by decide +kernel
theorem dX8_carry_180 : decode cX8_carry 180 = .ok (.aload_n 0, 1) := by decide +kernel
theorem dX8_carry_181 : decode cX8_carry 181 = .ok (.getfield 82, 3) := by decide +kernel
theorem dX8_carry_184 : decode cX8_carry 184 = .ok (.iload_n 1, 1) := by decide +kernel
theorem dX8_carry_185 : decode cX8_carry 185 = .ok (.iaload, 1) := by decide +kernel
theorem dX8_carry_186 : decode cX8_carry 186 = .ok (.if_icmp .ge 51, 3) := by decide +kernel
theorem dX8_carry_189 : decode cX8_carry 189 = .ok (.aload_n 0, 1) := by decide +kernel
theorem dX8_carry_190 : decode cX8_carry 190 = .ok (.getfield 79, 3) := by decide +kernel
theorem dX8_carry_193 : decode cX8_carry 193 = .ok (.bipush 64, 2) := by decide +kernel
theorem dX8_carry_195 : decode cX8_carry 195 = .ok (.iload_n 1, 1) := by decide +kernel
theorem dX8_carry_196 : decode cX8_carry 196 = .ok (.imul, 1) := by decide +kernel
theorem dX8_carry_197 : decode cX8_carry 197 = .ok (.iload 6, 2) := by decide +kernel
theorem dX8_carry_199 : decode cX8_carry 199 = .ok (.iadd, 1) := by decide +kernel
theorem dX8_carry_200 : decode cX8_carry 200 = .ok (.iaload, 1) := by decide +kernel
theorem dX8_carry_201 : decode cX8_carry 201 = .ok (.istore 7, 2) := by decide +kernel
theorem dX8_carry_203 : decode cX8_carry 203 = .ok (.aload_n 0, 1) := by decide +kernel
theorem dX8_carry_204 : decode cX8_carry 204 = .ok (.iload 7, 2) := by decide +kernel
theorem dX8_carry_206 : decode cX8_carry 206 = .ok (.iload_n 3, 1) := by decide +kernel
theorem dX8_carry_207 : decode cX8_carry 207 = .ok (.invokevirtual 188, 3) := by decide +kernel
theorem dX8_carry_210 : decode cX8_carry 210 = .ok (.ifCond .eq 21, 3) := by decide +kernel
theorem dX8_carry_213 : decode cX8_carry 213 = .ok (.aload_n 0, 1) := by decide +kernel
theorem dX8_carry_214 : decode cX8_carry 214 = .ok (.getfield 58, 3) := by decide +kernel
theorem dX8_carry_217 : decode cX8_carry 217 = .ok (.iload 7, 2) := by decide +kernel
theorem dX8_carry_219 : decode cX8_carry 219 = .ok (.iconst 1, 1) := by decide +kernel
theorem dX8_carry_220 : decode cX8_carry 220 = .ok (.bastore, 1) := by decide +kernel
theorem dX8_carry_221 : decode cX8_carry 221 = .ok (.aload_n 0, 1) := by decide +kernel
theorem dX8_carry_222 : decode cX8_carry 222 = .ok (.bipush 11, 2) := by decide +kernel
theorem dX8_carry_224 : decode cX8_carry 224 = .ok (.iload 7, 2) := by decide +kernel
theorem dX8_carry_226 : decode cX8_carry 226 = .ok (.iload_n 1, 1) := by decide +kernel
theorem dX8_carry_227 : decode cX8_carry 227 = .ok (.iload_n 3, 1) := by decide +kernel
theorem dX8_carry_228 : decode cX8_carry 228 = .ok (.invokevirtual 153, 3) := by decide +kernel
theorem dX8_carry_231 : decode cX8_carry 231 = .ok (.iinc 6 1, 3) := by decide +kernel
theorem dX8_carry_234 : decode cX8_carry 234 = .ok (.goto (-56), 3) := by decide +kernel
theorem dX8_carry_237 : decode cX8_carry 237 = .ok (.aload_n 0, 1) := by decide +kernel
theorem dX8_carry_238 : decode cX8_carry 238 = .ok (.bipush 12, 2) := by decide +kernel
theorem dX8_carry_240 : decode cX8_carry 240 = .ok (.iload_n 1, 1) := by decide +kernel
theorem dX8_carry_241 : decode cX8_carry 241 = .ok (.iload_n 3, 1) := by decide +kernel
theorem dX8_carry_242 : decode cX8_carry 242 = .ok (.aload_n 0, 1) := by decide +kernel
theorem dX8_carry_243 : decode cX8_carry 243 = .ok (.getfield 82, 3) := by decide +kernel
theorem dX8_carry_246 : decode cX8_carry 246 = .ok (.iload_n 1, 1) := by decide +kernel
theorem dX8_carry_247 : decode cX8_carry 247 = .ok (.iaload, 1) := by decide +kernel
theorem dX8_carry_248 : decode cX8_carry 248 = .ok (.iload 5, 2) := by decide +kernel
theorem dX8_carry_250 : decode cX8_carry 250 = .ok (.isub, 1) := by decide +kernel
theorem dX8_carry_251 : decode cX8_carry 251 = .ok (.invokevirtual 153, 3) := by decide +kernel
theorem dX8_carry_254 : decode cX8_carry 254 = .ok (.iload 5, 2) := by decide +kernel
theorem dX8_carry_256 : decode cX8_carry 256 = .ok (.ireturn, 1) := by decide +kernel
set_option maxRecDepth 20000 in
theorem ggX8_count_X8_isIn : GoodIn wsX8_count wsX8_isIn := goodIn_r _ [11] (by decide +kernel) (by decide +kernel)
set_option maxRecDepth 20000 in
theorem gX8_count_X8_isIn : GoodIn wsX8_count (va_wsS RX8 114 yX8_isIn wsX8_isIn) := goodIn_app (goodIn_of _ (by decide +kernel)) ggX8_count_X8_isIn
theorem dX8_count_0 : decode cX8_count 0 = .ok (.aload_n 0, 1) := by decide +kernel
theorem dX8_count_1 : decode cX8_count 1 = .ok (.iload_n 1, 1) := by decide +kernel
theorem dX8_count_2 : decode cX8_count 2 = .ok (.iconst 0, 1) := by decide +kernel
theorem dX8_count_3 : decode cX8_count 3 = .ok (.iconst 4, 1) := by decide +kernel
theorem dX8_count_4 : decode cX8_count 4 = .ok (.invokestatic 114, 3) := by decide +kernel
theorem dX8_count_7 : decode cX8_count 7 = .ok (.ifCond .eq 7, 3) := by decide +kernel
theorem dX8_count_10 : decode cX8_count 10 = .ok (.iconst 0, 1) := by decide +kernel
theorem dX8_count_11 : decode cX8_count 11 = .ok (.goto 4, 3) := by decide +kernel
theorem dX8_count_14 : decode cX8_count 14 = .ok (.iconst 1, 1) := by decide +kernel
theorem dX8_count_15 : decode cX8_count 15 = .ok (.putfield 100, 3) := by decide +kernel
theorem dX8_count_18 : decode cX8_count 18 = .ok (.aload_n 0, 1) := by decide +kernel
theorem dX8_count_19 : decode cX8_count 19 = .ok (.getfield 100, 3) := by decide +kernel
theorem dX8_count_22 : decode cX8_count 22 = .ok (.ifCond .le 5, 3) := by decide +kernel
theorem dX8_count_25 : decode cX8_count 25 = .ok (.iconst 0, 1) := by decide +kernel
theorem dX8_count_26 : decode cX8_count 26 = .ok (.ireturn, 1) := by decide +kernel
theorem dX8_count_27 : decode cX8_count 27 = .ok (.iload_n 1, 1) := by decide +kernel
theorem dX8_count_28 : decode cX8_count 28 = .ok (.iconst 4, 1) := by decide +kernel
theorem dX8_count_29 : decode cX8_count 29 = .ok (.if_icmp .ge 43, 3) := by decide +kernel
theorem dX8_count_32 : decode cX8_count 32 = .ok (.iload_n 1, 1) := by decide +kernel
theorem dX8_count_33 : decode cX8_count 33 = .ok (.ifCond .ne 10, 3) := by decide +kernel
theorem dX8_count_36 : decode cX8_count 36 = .ok (.aload_n 0, 1) := by decide +kernel
theorem dX8_count_37 : decode cX8_count 37 = .ok (.getfield 135, 3) := by decide +kernel
theorem dX8_count_40 : decode cX8_count 40 = .ok (.goto 31, 3) := by decide +kernel
theorem dX8_count_43 : decode cX8_count 43 = .ok (.iload_n 1, 1) := by decide +kernel
theorem dX8_count_44 : decode cX8_count 44 = .ok (.iconst 1, 1) := by decide +kernel
theorem dX8_count_45 : decode cX8_count 45 = .ok (.if_icmp .ne 10, 3) := by decide +kernel
theorem dX8_count_48 : decode cX8_count 48 = .ok (.aload_n 0, 1) := by decide +kernel
theorem dX8_count_49 : decode cX8_count 49 = .ok (.getfield 185, 3) := by decide +kernel
theorem dX8_count_52 : decode cX8_count 52 = .ok (.goto 19, 3) := by decide +kernel
theorem dX8_count_55 : decode cX8_count 55 = .ok (.iload_n 1, 1) := by decide +kernel
theorem dX8_count_56 : decode cX8_count 56 = .ok (.iconst 2, 1) := by decide +kernel
theorem dX8_count_57 : decode cX8_count 57 = .ok (.if_icmp .ne 10, 3) := by decide +kernel
theorem dX8_count_60 : decode cX8_count 60 = .ok (.aload_n 0, 1) := by decide +kernel
theorem dX8_count_61 : decode cX8_count 61 = .ok (.getfield 138, 3) := by decide +kernel
theorem dX8_count_64 : decode cX8_count 64 = .ok (.goto 7, 3) := by decide +kernel
theorem dX8_count_67 : decode cX8_count 67 = .ok (.aload_n 0, 1) := by decide +kernel
theorem dX8_count_68 : decode cX8_count 68 = .ok (.getfield 126, 3) := by decide +kernel
theorem dX8_count_71 : decode cX8_count 71 = .ok (.ireturn, 1) := by decide +kernel
theorem dX8_count_72 : decode cX8_count 72 = .ok (.iconst 0, 1) := by decide +kernel
theorem dX8_count_73 : decode cX8_count 73 = .ok (.istore_n 2, 1) := by decide +kernel
theorem dX8_count_74 : decode cX8_count 74 = .ok (.iconst 0, 1) := by decide +kernel
theorem dX8_count_75 : decode cX8_count 75 = .ok (.istore_n 3, 1) := by decide +kernel
theorem dX8_count_76 : decode cX8_count 76 = .ok (.iload_n 3, 1) := by decide +kernel
theorem dX8_count_77 : decode cX8_count 77 = .ok (.aload_n 0, 1) := by decide +kernel
theorem dX8_count_78 : decode cX8_count 78 = .ok (.getfield 135, 3) := by decide +kernel
theorem dX8_count_81 : decode cX8_count 81 = .ok (.if_icmp .ge 31, 3) := by decide +kernel
theorem dX8_count_84 : decode cX8_count 84 = .ok (.aload_n 0, 1) := by decide +kernel
theorem dX8_count_85 : decode cX8_count 85 = .ok (.getfield 58, 3) := by decide +kernel
theorem dX8_count_88 : decode cX8_count 88 = .ok (.iload_n 3, 1) := by decide +kernel
theorem dX8_count_89 : decode cX8_count 89 = .ok (.baload, 1) := by decide +kernel
theorem dX8_count_90 : decode cX8_count 90 = .ok (.ifCond .eq 7, 3) := by decide +kernel
theorem dX8_count_93 : decode cX8_count 93 = .ok (.iload_n 2, 1) := by decide +kernel
theorem dX8_count_94 : decode cX8_count 94 = .ok (.goto 11, 3) := by decide +kernel
theorem dX8_count_97 : decode cX8_count 97 = .ok (.iload_n 2, 1) := by decide +kernel
theorem dX8_count_98 : decode cX8_count 98 = .ok (.aload_n 0, 1) := by decide +kernel
theorem dX8_count_99 : decode cX8_count 99 = .ok (.getfield 48, 3) := by decide +kernel
theorem dX8_count_102 : decode cX8_count 102 = .ok (.iload_n 3, 1) := by decide +kernel
theorem dX8_count_103 : decode cX8_count 103 = .ok (.iaload, 1) := by decide +kernel
theorem dX8_count_104 : decode cX8_count 104 = .ok (.iadd, 1) := by decide +kernel
theorem dX8_count_105 : decode cX8_count 105 = .ok (.istore_n 2, 1) := by decide +kernel
theorem dX8_count_106 : decode cX8_count 106 = .ok (.iinc 3 1, 3) := by decide +kernel
theorem dX8_count_109 : decode cX8_count 109 = .ok (.goto (-33), 3) := by decide +kernel
theorem dX8_count_112 : decode cX8_count 112 = .ok (.iload_n 2, 1) := by decide +kernel
theorem dX8_count_113 : decode cX8_count 113 = .ok (.ireturn, 1) := by decide +kernel
set_option maxRecDepth 20000 in
theorem ggX8_noAct_X8_isIn : GoodIn wsX8_noAct wsX8_isIn := goodIn_r _ [5] (by decide +kernel) (by decide +kernel)
set_option maxRecDepth 20000 in
theorem gX8_noAct_X8_isIn : GoodIn wsX8_noAct (va_wsS RX8 114 yX8_isIn wsX8_isIn) := goodIn_app (goodIn_of _ (by decide +kernel)) ggX8_noAct_X8_isIn
theorem dX8_noAct_0 : decode cX8_noAct 0 = .ok (.iload_n 1, 1) := by decide +kernel
theorem dX8_noAct_1 : decode cX8_noAct 1 = .ok (.iconst 0, 1) := by decide +kernel
theorem dX8_noAct_2 : decode cX8_noAct 2 = .ok (.aload_n 0, 1) := by decide +kernel
theorem dX8_noAct_3 : decode cX8_noAct 3 = .ok (.getfield 138, 3) := by decide +kernel
theorem dX8_noAct_6 : decode cX8_noAct 6 = .ok (.iconst 1, 1) := by decide +kernel
theorem dX8_noAct_7 : decode cX8_noAct 7 = .ok (.isub, 1) := by decide +kernel
theorem dX8_noAct_8 : decode cX8_noAct 8 = .ok (.invokestatic 114, 3) := by decide +kernel
theorem dX8_noAct_11 : decode cX8_noAct 11 = .ok (.ifCond .ne 7, 3) := by decide +kernel
theorem dX8_noAct_14 : decode cX8_noAct 14 = .ok (.iconst 1, 1) := by decide +kernel
theorem dX8_noAct_15 : decode cX8_noAct 15 = .ok (.goto 4, 3) := by decide +kernel
theorem dX8_noAct_18 : decode cX8_noAct 18 = .ok (.iconst 0, 1) := by decide +kernel
theorem dX8_noAct_19 : decode cX8_noAct 19 = .ok (.ireturn, 1) := by decide +kernel
set_option maxRecDepth 20000 in
theorem ggX8_act_X8_noAct : GoodIn wsX8_act wsX8_noAct := goodIn_r _ [7, 8, 9, 10, 6, 11, 12, 13, 14, 15, 16, 17, 18, 19, 20, 21, 22, 23, 24, 25, 26, 27, 28, 29, 30, 31, 32, 33, 34, 35, 36, 37, 38, 39, 40, 41, 42, 43, 44, 45] (by decide +kernel) (by decide +kernel)
set_option maxRecDepth 20000 in
theorem gX8_act_X8_noAct : GoodIn wsX8_act (wsV RX8 206 RX8 yX8_noAct wsX8_noAct) := goodIn_app (goodIn_of _ (by decide +kernel)) ggX8_act_X8_noAct
set_option maxRecDepth 20000 in
theorem ggX8_act_X8_isIn : GoodIn wsX8_act wsX8_isIn := goodIn_r _ [11] (by decide +kernel) (by decide +kernel)
set_option maxRecDepth 20000 in
theorem gX8_act_X8_isIn : GoodIn wsX8_act (va_wsS RX8 114 yX8_isIn wsX8_isIn) := goodIn_app (goodIn_of _ (by decide +kernel)) ggX8_act_X8_isIn
theorem dX8_act_0 : decode cX8_act 0 = .ok (.aload_n 0, 1) := by decide +kernel
theorem dX8_act_1 : decode cX8_act 1 = .ok (.aload_n 0, 1) := by decide +kernel
theorem dX8_act_2 : decode cX8_act 2 = .ok (.iload_n 1, 1) := by decide +kernel
theorem dX8_act_3 : decode cX8_act 3 = .ok (.invokevirtual 206, 3) := by decide +kernel
theorem dX8_act_6 : decode cX8_act 6 = .ok (.ifCond .eq 7, 3) := by decide +kernel
theorem dX8_act_9 : decode cX8_act 9 = .ok (.iconst 1, 1) := by decide +kernel
theorem dX8_act_10 : decode cX8_act 10 = .ok (.goto 17, 3) := by decide +kernel
theorem dX8_act_13 : decode cX8_act 13 = .ok (.iload_n 2, 1) := by decide +kernel
theorem dX8_act_14 : decode cX8_act 14 = .ok (.iconst 0, 1) := by decide +kernel
theorem dX8_act_15 : decode cX8_act 15 = .ok (.iconst 3, 1) := by decide +kernel
theorem dX8_act_16 : decode cX8_act 16 = .ok (.invokestatic 114, 3) := by decide +kernel
theorem dX8_act_19 : decode cX8_act 19 = .ok (.ifCond .ne 7, 3) := by decide +kernel
theorem dX8_act_22 : decode cX8_act 22 = .ok (.iconst 2, 1) := by decide +kernel
theorem dX8_act_23 : decode cX8_act 23 = .ok (.goto 4, 3) := by decide +kernel
theorem dX8_act_26 : decode cX8_act 26 = .ok (.iconst 0, 1) := by decide +kernel
theorem dX8_act_27 : decode cX8_act 27 = .ok (.putfield 100, 3) := by decide +kernel
theorem dX8_act_30 : decode cX8_act 30 = .ok (.aload_n 0, 1) := by decide +kernel
theorem dX8_act_31 : decode cX8_act 31 = .ok (.getfield 100, 3) := by decide +kernel
theorem dX8_act_34 : decode cX8_act 34 = .ok (.ifCond .le 7, 3) := by decide +kernel
theorem dX8_act_37 : decode cX8_act 37 = .ok (.iconst 0, 1) := by decide +kernel
theorem dX8_act_38 : decode cX8_act 38 = .ok (.goto 13, 3) := by decide +kernel
theorem dX8_act_41 : decode cX8_act 41 = .ok (.aload_n 0, 1) := by decide +kernel
theorem dX8_act_42 : decode cX8_act 42 = .ok (.getfield 94, 3) := by decide +kernel
theorem dX8_act_45 : decode cX8_act 45 = .ok (.iconst 4, 1) := by decide +kernel
theorem dX8_act_46 : decode cX8_act 46 = .ok (.iload_n 1, 1) := by decide +kernel
theorem dX8_act_47 : decode cX8_act 47 = .ok (.imul, 1) := by decide +kernel
theorem dX8_act_48 : decode cX8_act 48 = .ok (.iload_n 2, 1) := by decide +kernel
theorem dX8_act_49 : decode cX8_act 49 = .ok (.iadd, 1) := by decide +kernel
theorem dX8_act_50 : decode cX8_act 50 = .ok (.iaload, 1) := by decide +kernel
theorem dX8_act_51 : decode cX8_act 51 = .ok (.ireturn, 1) := by decide +kernel
set_option maxRecDepth 20000 in
theorem ggX8_link_X8_noAct : GoodIn wsX8_link wsX8_noAct := goodIn_r _ [7, 8, 9, 10, 6, 11, 12, 13, 14, 15, 16, 17, 18, 19, 20, 21, 22, 23, 24, 25, 26, 27, 28, 29, 30, 31, 32, 33, 34, 35, 36, 37, 38, 39, 40, 41, 42, 43, 44, 45] (by decide +kernel) (by decide +kernel)
set_option maxRecDepth 20000 in
theorem gX8_link_X8_noAct : GoodIn wsX8_link (wsV RX8 206 RX8 yX8_noAct wsX8_noAct) := goodIn_app (goodIn_of _ (by decide +kernel)) ggX8_link_X8_noAct
theorem dX8_link_0 : decode cX8_link 0 = .ok (.aload_n 0, 1) := by decide +kernel
theorem dX8_link_1 : decode cX8_link 1 = .ok (.aload_n 0, 1) := by decide +kernel
theorem dX8_link_2 : decode cX8_link 2 = .ok (.iload_n 1, 1) := by decide +kernel
theorem dX8_link_3 : decode cX8_link 3 = .ok (.invokevirtual 206, 3) := by decide +kernel
theorem dX8_link_6 : decode cX8_link 6 = .ok (.ifCond .eq 7, 3) := by decide +kernel
theorem dX8_link_9 : decode cX8_link 9 = .ok (.iconst 1, 1) := by decide +kernel
theorem dX8_link_10 : decode cX8_link 10 = .ok (.goto 4, 3) := by decide +kernel
theorem dX8_link_13 : decode cX8_link 13 = .ok (.iconst 0, 1) := by decide +kernel
theorem dX8_link_14 : decode cX8_link 14 = .ok (.putfield 100, 3) := by decide +kernel
theorem dX8_link_17 : decode cX8_link 17 = .ok (.aload_n 0, 1) := by decide +kernel
theorem dX8_link_18 : decode cX8_link 18 = .ok (.getfield 100, 3) := by decide +kernel
theorem dX8_link_21 : decode cX8_link 21 = .ok (.ifCond .le 7, 3) := by decide +kernel
theorem dX8_link_24 : decode cX8_link 24 = .ok (.lconst 0, 1) := by decide +kernel
theorem dX8_link_25 : decode cX8_link 25 = .ok (.goto 9, 3) := by decide +kernel
theorem dX8_link_28 : decode cX8_link 28 = .ok (.aload_n 0, 1) := by decide +kernel
theorem dX8_link_29 : decode cX8_link 29 = .ok (.getfield 97, 3) := by decide +kernel
theorem dX8_link_32 : decode cX8_link 32 = .ok (.iload_n 1, 1) := by decide +kernel
theorem dX8_link_33 : decode cX8_link 33 = .ok (.laload, 1) := by decide +kernel
theorem dX8_link_34 : decode cX8_link 34 = .ok (.lreturn, 1) := by decide +kernel
set_option maxRecDepth 20000 in
theorem ggX8_spoil_X8_noAct : GoodIn wsX8_spoil wsX8_noAct := goodIn_r _ [7, 8, 9, 10, 6, 11, 12, 13, 14, 15, 16, 17, 18, 19, 20, 21, 22, 23, 24, 25, 26, 27, 28, 29, 30, 31, 32, 33, 34, 35, 36, 37, 38, 39, 40, 41, 42, 43, 44, 45] (by decide +kernel) (by decide +kernel)
set_option maxRecDepth 20000 in
theorem gX8_spoil_X8_noAct : GoodIn wsX8_spoil (wsV RX8 206 RX8 yX8_noAct wsX8_noAct) := goodIn_app (goodIn_of _ (by decide +kernel)) ggX8_spoil_X8_noAct
set_option maxRecDepth 20000 in
theorem ggX8_spoil_X8_isIn : GoodIn wsX8_spoil wsX8_isIn := goodIn_r _ [11] (by decide +kernel) (by decide +kernel)
set_option maxRecDepth 20000 in
theorem gX8_spoil_X8_isIn : GoodIn wsX8_spoil (va_wsS RX8 114 yX8_isIn wsX8_isIn) := goodIn_app (goodIn_of _ (by decide +kernel)) ggX8_spoil_X8_isIn
theorem dX8_spoil_0 : decode cX8_spoil 0 = .ok (.aload_n 0, 1) := by decide +kernel
theorem dX8_spoil_1 : decode cX8_spoil 1 = .ok (.aload_n 0, 1) := by decide +kernel
theorem dX8_spoil_2 : decode cX8_spoil 2 = .ok (.iload_n 1, 1) := by decide +kernel
theorem dX8_spoil_3 : decode cX8_spoil 3 = .ok (.invokevirtual 206, 3) := by decide +kernel
theorem dX8_spoil_6 : decode cX8_spoil 6 = .ok (.ifCond .eq 7, 3) := by decide +kernel
theorem dX8_spoil_9 : decode cX8_spoil 9 = .ok (.iconst 1, 1) := by decide +kernel
theorem dX8_spoil_10 : decode cX8_spoil 10 = .ok (.goto 17, 3) := by decide +kernel
theorem dX8_spoil_13 : decode cX8_spoil 13 = .ok (.iload_n 2, 1) := by decide +kernel
theorem dX8_spoil_14 : decode cX8_spoil 14 = .ok (.iconst 0, 1) := by decide +kernel
theorem dX8_spoil_15 : decode cX8_spoil 15 = .ok (.iconst 3, 1) := by decide +kernel
theorem dX8_spoil_16 : decode cX8_spoil 16 = .ok (.invokestatic 114, 3) := by decide +kernel
theorem dX8_spoil_19 : decode cX8_spoil 19 = .ok (.ifCond .ne 7, 3) := by decide +kernel
theorem dX8_spoil_22 : decode cX8_spoil 22 = .ok (.iconst 2, 1) := by decide +kernel
theorem dX8_spoil_23 : decode cX8_spoil 23 = .ok (.goto 4, 3) := by decide +kernel
theorem dX8_spoil_26 : decode cX8_spoil 26 = .ok (.iconst 0, 1) := by decide +kernel
theorem dX8_spoil_27 : decode cX8_spoil 27 = .ok (.putfield 100, 3) := by decide +kernel
theorem dX8_spoil_30 : decode cX8_spoil 30 = .ok (.aload_n 0, 1) := by decide +kernel
theorem dX8_spoil_31 : decode cX8_spoil 31 = .ok (.getfield 100, 3) := by decide +kernel
theorem dX8_spoil_34 : decode cX8_spoil 34 = .ok (.ifCond .ne 14, 3) := by decide +kernel
theorem dX8_spoil_37 : decode cX8_spoil 37 = .ok (.aload_n 0, 1) := by decide +kernel
theorem dX8_spoil_38 : decode cX8_spoil 38 = .ok (.getfield 94, 3) := by decide +kernel
theorem dX8_spoil_41 : decode cX8_spoil 41 = .ok (.iconst 4, 1) := by decide +kernel
theorem dX8_spoil_42 : decode cX8_spoil 42 = .ok (.iload_n 1, 1) := by decide +kernel
theorem dX8_spoil_43 : decode cX8_spoil 43 = .ok (.imul, 1) := by decide +kernel
theorem dX8_spoil_44 : decode cX8_spoil 44 = .ok (.iload_n 2, 1) := by decide +kernel
theorem dX8_spoil_45 : decode cX8_spoil 45 = .ok (.iadd, 1) := by decide +kernel
theorem dX8_spoil_46 : decode cX8_spoil 46 = .ok (.iload_n 3, 1) := by decide +kernel
theorem dX8_spoil_47 : decode cX8_spoil 47 = .ok (.iastore, 1) := by decide +kernel
theorem dX8_spoil_48 : decode cX8_spoil 48 = .ok (.return_, 1) := by decide +kernel
set_option maxRecDepth 20000 in
theorem ggX8_broken_X8_linkOf : GoodIn wsX8_broken wsX8_linkOf := goodIn_r _ [8, 3, 9, 10, 11, 12, 13, 7, 14, 15, 16, 17, 18, 19, 20, 21, 22, 23, 24, 25, 26, 27, 28, 29, 30, 31, 32, 33, 34, 35, 36, 37, 38, 39, 40, 41, 42, 43, 44, 45, 46, 47, 48, 49, 50, 51, 52] (by decide +kernel) (by decide +kernel)
set_option maxRecDepth 20000 in
theorem gX8_broken_X8_linkOf : GoodIn wsX8_broken (wsV RX8 141 RX8 yX8_linkOf wsX8_linkOf) := goodIn_app (goodIn_of _ (by decide +kernel)) ggX8_broken_X8_linkOf
theorem dX8_broken_0 : decode cX8_broken 0 = .ok (.aload_n 0, 1) := by decide +kernel
theorem dX8_broken_1 : decode cX8_broken 1 = .ok (.iconst 0, 1) := by decide +kernel
theorem dX8_broken_2 : decode cX8_broken 2 = .ok (.putfield 100, 3) := by decide +kernel
theorem dX8_broken_5 : decode cX8_broken 5 = .ok (.iconst 0, 1) := by decide +kernel
theorem dX8_broken_6 : decode cX8_broken 6 = .ok (.istore_n 1, 1) := by decide +kernel
theorem dX8_broken_7 : decode cX8_broken 7 = .ok (.iload_n 1, 1) := by decide +kernel
theorem dX8_broken_8 : decode cX8_broken 8 = .ok (.aload_n 0, 1) := by decide +kernel
theorem dX8_broken_9 : decode cX8_broken 9 = .ok (.getfield 138, 3) := by decide +kernel
theorem dX8_broken_12 : decode cX8_broken 12 = .ok (.if_icmp .ge 26, 3) := by decide +kernel
theorem dX8_broken_15 : decode cX8_broken 15 = .ok (.aload_n 0, 1) := by decide +kernel
theorem dX8_broken_16 : decode cX8_broken 16 = .ok (.getfield 97, 3) := by decide +kernel
theorem dX8_broken_19 : decode cX8_broken 19 = .ok (.iload_n 1, 1) := by decide +kernel
theorem dX8_broken_20 : decode cX8_broken 20 = .ok (.laload, 1) := by decide +kernel
theorem dX8_broken_21 : decode cX8_broken 21 = .ok (.aload_n 0, 1) := by decide +kernel
theorem dX8_broken_22 : decode cX8_broken 22 = .ok (.iload_n 1, 1) := by decide +kernel
theorem dX8_broken_23 : decode cX8_broken 23 = .ok (.invokevirtual 141, 3) := by decide +kernel
theorem dX8_broken_26 : decode cX8_broken 26 = .ok (.lcmp, 1) := by decide +kernel
theorem dX8_broken_27 : decode cX8_broken 27 = .ok (.ifCond .eq 5, 3) := by decide +kernel
theorem dX8_broken_30 : decode cX8_broken 30 = .ok (.iload_n 1, 1) := by decide +kernel
theorem dX8_broken_31 : decode cX8_broken 31 = .ok (.ireturn, 1) := by decide +kernel
theorem dX8_broken_32 : decode cX8_broken 32 = .ok (.iinc 1 1, 3) := by decide +kernel
theorem dX8_broken_35 : decode cX8_broken 35 = .ok (.goto (-28), 3) := by decide +kernel
theorem dX8_broken_38 : decode cX8_broken 38 = .ok (.iconst (-1), 1) := by decide +kernel
theorem dX8_broken_39 : decode cX8_broken 39 = .ok (.ireturn, 1) := by decide +kernel
theorem dJ6_bitCount_0f7a4_0 : decode cJ6_bitCount_0f7a4 0 = .ok (.iload_n 0, 1) := by decide +kernel
theorem dJ6_bitCount_0f7a4_1 : decode cJ6_bitCount_0f7a4 1 = .ok (.iload_n 0, 1) := by decide +kernel
theorem dJ6_bitCount_0f7a4_2 : decode cJ6_bitCount_0f7a4 2 = .ok (.iconst 1, 1) := by decide +kernel
theorem dJ6_bitCount_0f7a4_3 : decode cJ6_bitCount_0f7a4 3 = .ok (.iushr, 1) := by decide +kernel
theorem dJ6_bitCount_0f7a4_4 : decode cJ6_bitCount_0f7a4 4 = .ok (.ldc_w 265, 3) := by decide +kernel
theorem dJ6_bitCount_0f7a4_7 : decode cJ6_bitCount_0f7a4 7 = .ok (.iand, 1) := by decide +kernel
theorem dJ6_bitCount_0f7a4_8 : decode cJ6_bitCount_0f7a4 8 = .ok (.isub, 1) := by decide +kernel
theorem dJ6_bitCount_0f7a4_9 : decode cJ6_bitCount_0f7a4 9 = .ok (.istore_n 0, 1) := by decide +kernel
theorem dJ6_bitCount_0f7a4_10 : decode cJ6_bitCount_0f7a4 10 = .ok (.iload_n 0, 1) := by decide +kernel
theorem dJ6_bitCount_0f7a4_11 : decode cJ6_bitCount_0f7a4 11 = .ok (.ldc_w 266, 3) := by decide +kernel
theorem dJ6_bitCount_0f7a4_14 : decode cJ6_bitCount_0f7a4 14 = .ok (.iand, 1) := by decide +kernel
theorem dJ6_bitCount_0f7a4_15 : decode cJ6_bitCount_0f7a4 15 = .ok (.iload_n 0, 1) := by decide +kernel
theorem dJ6_bitCount_0f7a4_16 : decode cJ6_bitCount_0f7a4 16 = .ok (.iconst 2, 1) := by decide +kernel
theorem dJ6_bitCount_0f7a4_17 : decode cJ6_bitCount_0f7a4 17 = .ok (.iushr, 1) := by decide +kernel
theorem dJ6_bitCount_0f7a4_18 : decode cJ6_bitCount_0f7a4 18 = .ok (.ldc_w 266, 3) := by decide +kernel
theorem dJ6_bitCount_0f7a4_21 : decode cJ6_bitCount_0f7a4 21 = .ok (.iand, 1) := by decide +kernel
theorem dJ6_bitCount_0f7a4_22 : decode cJ6_bitCount_0f7a4 22 = .ok (.iadd, 1) := by decide +kernel
theorem dJ6_bitCount_0f7a4_23 : decode cJ6_bitCount_0f7a4 23 = .ok (.istore_n 0, 1) := by decide +kernel
theorem dJ6_bitCount_0f7a4_24 : decode cJ6_bitCount_0f7a4 24 = .ok (.iload_n 0, 1) := by decide +kernel
theorem dJ6_bitCount_0f7a4_25 : decode cJ6_bitCount_0f7a4 25 = .ok (.iload_n 0, 1) := by decide +kernel
theorem dJ6_bitCount_0f7a4_26 : decode cJ6_bitCount_0f7a4 26 = .ok (.iconst 4, 1) := by decide +kernel
theorem dJ6_bitCount_0f7a4_27 : decode cJ6_bitCount_0f7a4 27 = .ok (.iushr, 1) := by decide +kernel
theorem dJ6_bitCount_0f7a4_28 : decode cJ6_bitCount_0f7a4 28 = .ok (.iadd, 1) := by decide +kernel
theorem dJ6_bitCount_0f7a4_29 : decode cJ6_bitCount_0f7a4 29 = .ok (.ldc_w 267, 3) := by decide +kernel
theorem dJ6_bitCount_0f7a4_32 : decode cJ6_bitCount_0f7a4 32 = .ok (.iand, 1) := by decide +kernel
theorem dJ6_bitCount_0f7a4_33 : decode cJ6_bitCount_0f7a4 33 = .ok (.istore_n 0, 1) := by decide +kernel
theorem dJ6_bitCount_0f7a4_34 : decode cJ6_bitCount_0f7a4 34 = .ok (.iload_n 0, 1) := by decide +kernel
theorem dJ6_bitCount_0f7a4_35 : decode cJ6_bitCount_0f7a4 35 = .ok (.iload_n 0, 1) := by decide +kernel
theorem dJ6_bitCount_0f7a4_36 : decode cJ6_bitCount_0f7a4 36 = .ok (.bipush 8, 2) := by decide +kernel
theorem dJ6_bitCount_0f7a4_38 : decode cJ6_bitCount_0f7a4 38 = .ok (.iushr, 1) := by decide +kernel
theorem dJ6_bitCount_0f7a4_39 : decode cJ6_bitCount_0f7a4 39 = .ok (.iadd, 1) := by decide +kernel
theorem dJ6_bitCount_0f7a4_40 : decode cJ6_bitCount_0f7a4 40 = .ok (.istore_n 0, 1) := by decide +kernel
theorem dJ6_bitCount_0f7a4_41 : decode cJ6_bitCount_0f7a4 41 = .ok (.iload_n 0, 1) := by decide +kernel
theorem dJ6_bitCount_0f7a4_42 : decode cJ6_bitCount_0f7a4 42 = .ok (.iload_n 0, 1) := by decide +kernel
theorem dJ6_bitCount_0f7a4_43 : decode cJ6_bitCount_0f7a4 43 = .ok (.bipush 16, 2) := by decide +kernel
theorem dJ6_bitCount_0f7a4_45 : decode cJ6_bitCount_0f7a4 45 = .ok (.iushr, 1) := by decide +kernel
theorem dJ6_bitCount_0f7a4_46 : decode cJ6_bitCount_0f7a4 46 = .ok (.iadd, 1) := by decide +kernel
theorem dJ6_bitCount_0f7a4_47 : decode cJ6_bitCount_0f7a4 47 = .ok (.istore_n 0, 1) := by decide +kernel
theorem dJ6_bitCount_0f7a4_48 : decode cJ6_bitCount_0f7a4 48 = .ok (.iload_n 0, 1) := by decide +kernel
theorem dJ6_bitCount_0f7a4_49 : decode cJ6_bitCount_0f7a4 49 = .ok (.bipush 63, 2) := by decide +kernel
theorem dJ6_bitCount_0f7a4_51 : decode cJ6_bitCount_0f7a4 51 = .ok (.iand, 1) := by decide +kernel
theorem dJ6_bitCount_0f7a4_52 : decode cJ6_bitCount_0f7a4 52 = .ok (.ireturn, 1) := by decide +kernel
theorem dJ13_bitCount_95d88_0 : decode cJ13_bitCount_95d88 0 = .ok (.lload_n 0, 1) := by decide +kernel
theorem dJ13_bitCount_95d88_1 : decode cJ13_bitCount_95d88 1 = .ok (.lload_n 0, 1) := by decide +kernel
theorem dJ13_bitCount_95d88_2 : decode cJ13_bitCount_95d88 2 = .ok (.iconst 1, 1) := by decide +kernel
theorem dJ13_bitCount_95d88_3 : decode cJ13_bitCount_95d88 3 = .ok (.lushr, 1) := by decide +kernel
theorem dJ13_bitCount_95d88_4 : decode cJ13_bitCount_95d88 4 = .ok (.ldc2_w 314, 3) := by decide +kernel
theorem dJ13_bitCount_95d88_7 : decode cJ13_bitCount_95d88 7 = .ok (.land, 1) := by decide +kernel
theorem dJ13_bitCount_95d88_8 : decode cJ13_bitCount_95d88 8 = .ok (.lsub, 1) := by decide +kernel
theorem dJ13_bitCount_95d88_9 : decode cJ13_bitCount_95d88 9 = .ok (.lstore_n 0, 1) := by decide +kernel
theorem dJ13_bitCount_95d88_10 : decode cJ13_bitCount_95d88 10 = .ok (.lload_n 0, 1) := by decide +kernel
theorem dJ13_bitCount_95d88_11 : decode cJ13_bitCount_95d88 11 = .ok (.ldc2_w 316, 3) := by decide +kernel
theorem dJ13_bitCount_95d88_14 : decode cJ13_bitCount_95d88 14 = .ok (.land, 1) := by decide +kernel
theorem dJ13_bitCount_95d88_15 : decode cJ13_bitCount_95d88 15 = .ok (.lload_n 0, 1) := by decide +kernel
theorem dJ13_bitCount_95d88_16 : decode cJ13_bitCount_95d88 16 = .ok (.iconst 2, 1) := by decide +kernel
theorem dJ13_bitCount_95d88_17 : decode cJ13_bitCount_95d88 17 = .ok (.lushr, 1) := by decide +kernel
theorem dJ13_bitCount_95d88_18 : decode cJ13_bitCount_95d88 18 = .ok (.ldc2_w 316, 3) := by decide +kernel
theorem dJ13_bitCount_95d88_21 : decode cJ13_bitCount_95d88 21 = .ok (.land, 1) := by decide +kernel
theorem dJ13_bitCount_95d88_22 : decode cJ13_bitCount_95d88 22 = .ok (.ladd, 1) := by decide +kernel
theorem dJ13_bitCount_95d88_23 : decode cJ13_bitCount_95d88 23 = .ok (.lstore_n 0, 1) := by decide +kernel
theorem dJ13_bitCount_95d88_24 : decode cJ13_bitCount_95d88 24 = .ok (.lload_n 0, 1) := by decide +kernel
theorem dJ13_bitCount_95d88_25 : decode cJ13_bitCount_95d88 25 = .ok (.lload_n 0, 1) := by decide +kernel
theorem dJ13_bitCount_95d88_26 : decode cJ13_bitCount_95d88 26 = .ok (.iconst 4, 1) := by decide +kernel
theorem dJ13_bitCount_95d88_27 : decode cJ13_bitCount_95d88 27 = .ok (.lushr, 1) := by decide +kernel
theorem dJ13_bitCount_95d88_28 : decode cJ13_bitCount_95d88 28 = .ok (.ladd, 1) := by decide +kernel
theorem dJ13_bitCount_95d88_29 : decode cJ13_bitCount_95d88 29 = .ok (.ldc2_w 318, 3) := by decide +kernel
theorem dJ13_bitCount_95d88_32 : decode cJ13_bitCount_95d88 32 = .ok (.land, 1) := by decide +kernel
theorem dJ13_bitCount_95d88_33 : decode cJ13_bitCount_95d88 33 = .ok (.lstore_n 0, 1) := by decide +kernel
theorem dJ13_bitCount_95d88_34 : decode cJ13_bitCount_95d88 34 = .ok (.lload_n 0, 1) := by decide +kernel
theorem dJ13_bitCount_95d88_35 : decode cJ13_bitCount_95d88 35 = .ok (.lload_n 0, 1) := by decide +kernel
theorem dJ13_bitCount_95d88_36 : decode cJ13_bitCount_95d88 36 = .ok (.bipush 8, 2) := by decide +kernel
theorem dJ13_bitCount_95d88_38 : decode cJ13_bitCount_95d88 38 = .ok (.lushr, 1) := by decide +kernel
theorem dJ13_bitCount_95d88_39 : decode cJ13_bitCount_95d88 39 = .ok (.ladd, 1) := by decide +kernel
theorem dJ13_bitCount_95d88_40 : decode cJ13_bitCount_95d88 40 = .ok (.lstore_n 0, 1) := by decide +kernel
theorem dJ13_bitCount_95d88_41 : decode cJ13_bitCount_95d88 41 = .ok (.lload_n 0, 1) := by decide +kernel
theorem dJ13_bitCount_95d88_42 : decode cJ13_bitCount_95d88 42 = .ok (.lload_n 0, 1) := by decide +kernel
theorem dJ13_bitCount_95d88_43 : decode cJ13_bitCount_95d88 43 = .ok (.bipush 16, 2) := by decide +kernel
theorem dJ13_bitCount_95d88_45 : decode cJ13_bitCount_95d88 45 = .ok (.lushr, 1) := by decide +kernel
theorem dJ13_bitCount_95d88_46 : decode cJ13_bitCount_95d88 46 = .ok (.ladd, 1) := by decide +kernel
theorem dJ13_bitCount_95d88_47 : decode cJ13_bitCount_95d88 47 = .ok (.lstore_n 0, 1) := by decide +kernel
theorem dJ13_bitCount_95d88_48 : decode cJ13_bitCount_95d88 48 = .ok (.lload_n 0, 1) := by decide +kernel
theorem dJ13_bitCount_95d88_49 : decode cJ13_bitCount_95d88 49 = .ok (.lload_n 0, 1) := by decide +kernel
theorem dJ13_bitCount_95d88_50 : decode cJ13_bitCount_95d88 50 = .ok (.bipush 32, 2) := by decide +kernel
theorem dJ13_bitCount_95d88_52 : decode cJ13_bitCount_95d88 52 = .ok (.lushr, 1) := by decide +kernel
theorem dJ13_bitCount_95d88_53 : decode cJ13_bitCount_95d88 53 = .ok (.ladd, 1) := by decide +kernel
theorem dJ13_bitCount_95d88_54 : decode cJ13_bitCount_95d88 54 = .ok (.lstore_n 0, 1) := by decide +kernel
theorem dJ13_bitCount_95d88_55 : decode cJ13_bitCount_95d88 55 = .ok (.lload_n 0, 1) := by decide +kernel
theorem dJ13_bitCount_95d88_56 : decode cJ13_bitCount_95d88 56 = .ok (.l2i, 1) := by decide +kernel
theorem dJ13_bitCount_95d88_57 : decode cJ13_bitCount_95d88 57 = .ok (.bipush 127, 2) := by decide +kernel
theorem dJ13_bitCount_95d88_59 : decode cJ13_bitCount_95d88 59 = .ok (.iand, 1) := by decide +kernel
theorem dJ13_bitCount_95d88_60 : decode cJ13_bitCount_95d88 60 = .ok (.ireturn, 1) := by decide +kernel
theorem dJ9_min_7cf53_0 : decode cJ9_min_7cf53 0 = .ok (.iload_n 0, 1) := by decide +kernel
theorem dJ9_min_7cf53_1 : decode cJ9_min_7cf53 1 = .ok (.iload_n 1, 1) := by decide +kernel
theorem dJ9_min_7cf53_2 : decode cJ9_min_7cf53 2 = .ok (.if_icmp .gt 7, 3) := by decide +kernel
theorem dJ9_min_7cf53_5 : decode cJ9_min_7cf53 5 = .ok (.iload_n 0, 1) := by decide +kernel
theorem dJ9_min_7cf53_6 : decode cJ9_min_7cf53 6 = .ok (.goto 4, 3) := by decide +kernel
theorem dJ9_min_7cf53_9 : decode cJ9_min_7cf53 9 = .ok (.iload_n 1, 1) := by decide +kernel
theorem dJ9_min_7cf53_10 : decode cJ9_min_7cf53 10 = .ok (.ireturn, 1) := by decide +kernel
abbrev vwCl : List vw_C := [(RX0, TX0, 3), (RX2, TX2, 4), (RX3, TX3, 8), (RX4, TX4, 4), (RX5, TX5, 6), (RX6, TX6, 5), (RX7, TX7, 11), (RX8, TX8, 34)]
end
section
/-! the state of the reference, and worlds whose cells are named by a kind and a number -/
abbrev qM : Type := (Nat → Nat → Int32) × (Nat → Nat → Int64)
/-- number f of the reference (place i of it, where it is an array) becomes v -/
def mq_i (m : qM) (f i : Nat) (v : Int32) : qM := (fun a => if a = f then upd (m.1 f) i v else m.1 a, m.2)
def mq_l (m : qM) (f i : Nat) (v : Int64) : qM := (m.1, fun a => if a = f then vp_updL (m.2 f) i v else m.2 a)
/-- a world: cells at addresses ad kind number -/
def wd (D : va_G) (A : Nat → Prop) (P : Nat → Nat → Option va_E) (ad : Nat → Nat → Nat) (H : Heap) : Prop :=
  ∃ (LP : List Nat) (f : Nat → va_E), va_P D vwCl ([] ++ va_pl LP f) H ∧ va_D A ([] ++ va_pl LP f) ∧ (∀ (k j : Nat) (e : va_E), P k j = some e → ad k j ∈ LP ∧ f (ad k j) = e) ∧
    (∀ (k j k' j' : Nat) (e e' : va_E), P k j = some e → P k' j' = some e' → ad k j = ad k' j' → k = k' ∧ j = j')
theorem wd_one {D : va_G} {A : Nat → Prop} {P : Nat → Nat → Option va_E} {ad : Nat → Nat → Nat} {H : Heap} (h : wd D A P ad H) (k j : Nat) {e : va_E} (hp : P k j = some e) : va_P D vwCl [(ad k j, e)] H := by
  obtain ⟨LP, f, hP, hD, hr, hi⟩ := h
  obtain ⟨hm, he⟩ := hr k j e hp
  obtain ⟨q, hq⟩ := va_pl_get (X := []) (f := f) hm
  intro n x hx
  have hn : n = 0 := by
    have := (List.getElem?_eq_some_iff.mp hx).1
    simp at this
    exact this
  subst hn
  have hx' : (ad k j, e) = x := by simpa using hx
  rw [← hx', ← he]
  exact hP q _ hq
theorem wd_re {P P' : Nat → Nat → Option va_E} {ad : Nat → Nat → Nat} {LP : List Nat} {f : Nat → va_E} {k j : Nat} {e0 e1 : va_E}
    (hr : ∀ (k j : Nat) (e : va_E), P k j = some e → ad k j ∈ LP ∧ f (ad k j) = e) (hi : ∀ (k j k' j' : Nat) (e e' : va_E), P k j = some e → P k' j' = some e' → ad k j = ad k' j' → k = k' ∧ j = j')
    (h0 : P k j = some e0) (h1 : P' k j = some e1) (h2 : ∀ a b, ¬ (a = k ∧ b = j) → P' a b = P a b) :
    (∀ (a b : Nat) (e : va_E), P' a b = some e → ad a b ∈ LP ∧ va_up f (ad k j) e1 (ad a b) = e) ∧ (∀ (a b a' b' : Nat) (e e' : va_E), P' a b = some e → P' a' b' = some e' → ad a b = ad a' b' → a = a' ∧ b = b') := by
  have hs : ∀ a b e, P' a b = some e → ∃ e2, P a b = some e2 := by
    intro a b e h
    by_cases q : a = k ∧ b = j
    · obtain ⟨rfl, rfl⟩ := q; exact ⟨_, h0⟩
    · rw [h2 a b q] at h; exact ⟨_, h⟩
  refine ⟨fun a b e h => ?_, fun a b a' b' e e' h h' ha => ?_⟩
  · by_cases q : a = k ∧ b = j
    · obtain ⟨rfl, rfl⟩ := q
      rw [h1] at h
      exact ⟨(hr _ _ _ h0).1, by rw [va_up_self]; exact Option.some.inj h⟩
    · rw [h2 a b q] at h
      refine ⟨(hr _ _ _ h).1, ?_⟩
      rw [va_up_ne _ _ (fun q2 => q (hi _ _ _ _ _ _ h h0 q2))]
      exact (hr _ _ _ h).2
  · obtain ⟨e2, g⟩ := hs _ _ _ h
    obtain ⟨e3, g'⟩ := hs _ _ _ h'
    exact hi _ _ _ _ _ _ g g' ha
section WDR
variable {p : Program} {l : Launch} {e : Env} {R : Room} {s : State} {m : MethodId} {args : Array Value} {below : List Frame} {meth : Method} {c : Code} {H : Heap} {locs : List Loc} {cells slots : Nat} {Q : State → Prop}
variable {cc : ByteArray} {pc : Nat} {ls : Array Slot} {rest : List Value} {D : va_G} {A : Nat → Prop} {tys : List (ClassId × FieldType)} {H0 : Heap} {P P' : Nat → Nat → Option va_E} {ad : Nat → Nat → Nat}
theorem wd_put (hexec : p.tables.exec = Jvm.exec) (hb : c.code = cc) {own ref C : String} {T : u_T} {N ci index : Nat} {Ts : List Cond} (hts : ∀ w ∈ Ts, w.before args s = true) (hin : ∀ w ∈ u_ws C T N, w ∈ Ts) (ty0 : Nat → FieldType) (hty : ∀ k, k < N → parseFieldDescriptor (T k).2.2.1 = some (ty0 k)) (hnm : ∀ a, a < N → ∀ b, b < N → a ≠ b → (T a).2.1 ≠ (T b).2.1) (hown : s.vm.findClass own = some m.cls) (hK : va_K D vwCl tys s) (hW : wd D A P ad H) (hS0 : va_S A H0 H locs) (k j : Nat) {fs : List Value} (he : P k j = some (.inr (ci, fs))) (hc : vwCl[ci]? = some (C, T, N)) (i : Nat) (hi : i < N)
    (hlink : (Cond.fieldLink own index ref (T i).2.1 (T i).2.2.1).before args s = true) (hsame : ∀ x, s.fieldFound? (T i).1 (T i).2.1 (T i).2.2.1 = some x → s.fieldFound? ref (T i).2.1 (T i).2.2.1 = some x) (hfin : (T i).2.2.2 = false) {ty : FieldType} {v : Value} (hd : parseFieldDescriptor (T i).2.2.1 = some ty) (hn : narrow ty v = v) (hfit : fits ty v = true) (hl : i < fs.length)
    (h1 : P' k j = some (.inr (ci, fs.set i v))) (h2 : ∀ a b, ¬ (a = k ∧ b = j) → P' a b = P a b) (hdg : decode cc pc = .ok (.putfield index, 3))
    (kk : ∀ (H1 : Heap) (locs1 : List Loc), wd D A P' ad H1 → va_S A H0 H1 locs1 → W p l e R s m args below meth c H1 locs1 cells slots Q (F0 m (pc + 3) ls rest)) : W p l e R s m args below meth c H locs cells slots Q (F0 m pc ls (v :: .ref (ad k j) :: rest)) := by
  obtain ⟨LP, f, hP, hD, hr, hj⟩ := hW
  obtain ⟨hm, hf⟩ := hr k j _ he
  obtain ⟨q, hq⟩ := va_pl_get (X := []) (f := f) hm
  have hq2 := hq
  rw [hf] at hq2
  refine va_put (a := ad k j) hexec hb hts hin ty0 hty hnm hown hK hP hD hS0 q hq2 hc i hi hlink hsame hfin hd hn hfit hl hdg (fun H1 locs1 hP1 hD1 hS1 => ?_)
  rw [va_pl_set hD hm hq] at hP1 hD1
  obtain ⟨g1, g2⟩ := wd_re hr hj he h1 h2
  exact kk H1 locs1 ⟨LP, _, hP1, hD1, g1, g2⟩ hS1
theorem wd_iast (hexec : p.tables.exec = Jvm.exec) (hb : c.code = cc) (hK : va_K D vwCl tys s) (hW : wd D A P ad H) (hS : va_S A H0 H locs) (k j t0 : Nat) {cA : ClassId} {n : Nat} {f : Nat → Int32} (ha : P k j = some (.inl (cA, n, .inl f))) (ht : tys[t0]? = some (cA, .int)) {i x : Int32} (hin : vp_in i n)
    (h1 : P' k j = some (.inl (cA, n, .inl (upd f i.toNatClampNeg x)))) (h2 : ∀ a b, ¬ (a = k ∧ b = j) → P' a b = P a b) (hdg : decode cc pc = .ok (.iastore, 1))
    (kk : ∀ (H1 : Heap) (locs1 : List Loc), wd D A P' ad H1 → va_S A H0 H1 locs1 → W p l e R s m args below meth c H1 locs1 cells slots Q (F0 m (pc + 1) ls rest)) : W p l e R s m args below meth c H locs cells slots Q (F0 m pc ls (.int x :: .int i :: .ref (ad k j) :: rest)) := by
  obtain ⟨LP, f0, hP, hD, hr, hj⟩ := hW
  obtain ⟨hm, hf⟩ := hr k j _ ha
  obtain ⟨q, hq⟩ := va_pl_get (X := []) (f := f0) hm
  have hq2 := hq
  rw [hf] at hq2
  refine va_iast (a := ad k j) hexec hb hK hP hD hS q t0 hq2 ht hin hdg (fun H1 locs1 hP1 hD1 hS1 => ?_)
  rw [va_pl_set hD hm hq] at hP1 hD1
  obtain ⟨g1, g2⟩ := wd_re hr hj ha h1 h2
  exact kk H1 locs1 ⟨LP, _, hP1, hD1, g1, g2⟩ hS1
theorem wd_zast (hexec : p.tables.exec = Jvm.exec) (hb : c.code = cc) (hK : va_K D vwCl tys s) (hW : wd D A P ad H) (hS : va_S A H0 H locs) (k j t0 : Nat) {cA : ClassId} {n : Nat} {f : Nat → Int32} (ha : P k j = some (.inl (cA, n, .inl f))) (ht : tys[t0]? = some (cA, .boolean)) {i x : Int32} (hx : vp_nar .boolean x = x) (hin : vp_in i n)
    (h1 : P' k j = some (.inl (cA, n, .inl (upd f i.toNatClampNeg x)))) (h2 : ∀ a b, ¬ (a = k ∧ b = j) → P' a b = P a b) (hdg : decode cc pc = .ok (.bastore, 1))
    (kk : ∀ (H1 : Heap) (locs1 : List Loc), wd D A P' ad H1 → va_S A H0 H1 locs1 → W p l e R s m args below meth c H1 locs1 cells slots Q (F0 m (pc + 1) ls rest)) : W p l e R s m args below meth c H locs cells slots Q (F0 m pc ls (.int x :: .int i :: .ref (ad k j) :: rest)) := by
  obtain ⟨LP, f0, hP, hD, hr, hj⟩ := hW
  obtain ⟨hm, hf⟩ := hr k j _ ha
  obtain ⟨q, hq⟩ := va_pl_get (X := []) (f := f0) hm
  have hq2 := hq
  rw [hf] at hq2
  refine va_zast (a := ad k j) hexec hb hK hP hD hS q t0 hq2 ht hin hdg (fun H1 locs1 hP1 hD1 hS1 => ?_)
  rw [hx, va_pl_set hD hm hq] at hP1 hD1
  obtain ⟨g1, g2⟩ := wd_re hr hj ha h1 h2
  exact kk H1 locs1 ⟨LP, _, hP1, hD1, g1, g2⟩ hS1
theorem wd_last (hexec : p.tables.exec = Jvm.exec) (hb : c.code = cc) (hK : va_K D vwCl tys s) (hW : wd D A P ad H) (hS : va_S A H0 H locs) (k j t0 : Nat) {cA : ClassId} {n : Nat} {f : Nat → Int64} (ha : P k j = some (.inl (cA, n, .inr (.inl f)))) (ht : tys[t0]? = some (cA, .long)) {i : Int32} {x : Int64} (hin : vp_in i n)
    (h1 : P' k j = some (.inl (cA, n, .inr (.inl (vp_updL f i.toNatClampNeg x))))) (h2 : ∀ a b, ¬ (a = k ∧ b = j) → P' a b = P a b) (hdg : decode cc pc = .ok (.lastore, 1))
    (kk : ∀ (H1 : Heap) (locs1 : List Loc), wd D A P' ad H1 → va_S A H0 H1 locs1 → W p l e R s m args below meth c H1 locs1 cells slots Q (F0 m (pc + 1) ls rest)) : W p l e R s m args below meth c H locs cells slots Q (F0 m pc ls (.long x :: .int i :: .ref (ad k j) :: rest)) := by
  obtain ⟨LP, f0, hP, hD, hr, hj⟩ := hW
  obtain ⟨hm, hf⟩ := hr k j _ ha
  obtain ⟨q, hq⟩ := va_pl_get (X := []) (f := f0) hm
  have hq2 := hq
  rw [hf] at hq2
  refine va_last (a := ad k j) hexec hb hK hP hD hS q t0 hq2 ht hin hdg (fun H1 locs1 hP1 hD1 hS1 => ?_)
  rw [va_pl_set hD hm hq] at hP1 hD1
  obtain ⟨g1, g2⟩ := wd_re hr hj ha h1 h2
  exact kk H1 locs1 ⟨LP, _, hP1, hD1, g1, g2⟩ hS1
end WDR
/-- the array classes that the worlds hold -/
def wd_tys (cA : Nat → ClassId) : List (ClassId × FieldType) := [(cA 0, .int), (cA 1, .long), (cA 2, .boolean), (cA 3, .object "RecordsOffice$Schedule"), (cA 4, .object "RecordsOffice$Folder"), (cA 5, .object "RecordsOffice$Hold"), (cA 6, .object "RecordsOffice$Filed"), (cA 7, .object "RecordsOffice$DueList")]
/-- the reference's arrays: 1 of ints, 2 of booleans, 3 of longs; how long -/
def wm_kind : Nat → Nat × Nat := fun f => match f with
  | 1 => (1, 8) | 4 => (1, 8) | 5 => (1, 8) | 6 => (1, 48) | 7 => (1, 48) | 8 => (2, 48) | 9 => (1, 16) | 10 => (1, 16) | 11 => (1, 16) | 13 => (1, 64) | 14 => (1, 64) | 15 => (1, 64) | 16 => (3, 64) | 17 => (1, 192) | 18 => (2, 64) | 19 => (2, 8)
  | 20 => (1, 8) | 21 => (1, 8) | 22 => (1, 8) | 23 => (1, 8) | 24 => (1, 8) | 26 => (1, 1024) | 27 => (1, 16) | 28 => (1, 16) | 29 => (1, 16) | 30 => (2, 16) | 32 => (1, 1600) | 33 => (3, 400) | _ => (0, 0)
def wm_arr (cA : Nat → ClassId) (m : qM) (f : Nat) : Option va_E := match wm_kind f with
  | (1, n) => some (.inl (cA 0, n, .inl (m.1 f)))
  | (2, n) => some (.inl (cA 2, n, .inl (m.1 f)))
  | (3, n) => some (.inl (cA 1, n, .inr (.inl (m.2 f))))
  | _ => none
def wm_fs (ad : Nat → Nat → Nat) (m : qM) : List Value := [.int (m.1 0 0), .ref (ad 21 1), .int (m.1 2 0), .int (m.1 3 0), .ref (ad 21 4), .ref (ad 21 5), .ref (ad 21 6), .ref (ad 21 7), .ref (ad 21 8), .ref (ad 21 9), .ref (ad 21 10), .ref (ad 21 11), .int (m.1 12 0), .ref (ad 21 13), .ref (ad 21 14), .ref (ad 21 15), .ref (ad 21 16), .ref (ad 21 17), .ref (ad 21 18), .ref (ad 21 19), .ref (ad 21 20), .ref (ad 21 21), .ref (ad 21 22), .ref (ad 21 23), .ref (ad 21 24), .int (m.1 25 0), .ref (ad 21 26), .ref (ad 21 27), .ref (ad 21 28), .ref (ad 21 29), .ref (ad 21 30), .int (m.1 31 0), .ref (ad 21 32), .ref (ad 21 33)]
theorem ws_0 (ad : Nat → Nat → Nat) (q : qM) (v : Int32) : (wm_fs ad q).set 0 (.int v) = wm_fs ad (mq_i q 0 0 v) := rfl
theorem ws_2 (ad : Nat → Nat → Nat) (q : qM) (v : Int32) : (wm_fs ad q).set 2 (.int v) = wm_fs ad (mq_i q 2 0 v) := rfl
theorem ws_3 (ad : Nat → Nat → Nat) (q : qM) (v : Int32) : (wm_fs ad q).set 3 (.int v) = wm_fs ad (mq_i q 3 0 v) := rfl
theorem ws_12 (ad : Nat → Nat → Nat) (q : qM) (v : Int32) : (wm_fs ad q).set 12 (.int v) = wm_fs ad (mq_i q 12 0 v) := rfl
theorem ws_25 (ad : Nat → Nat → Nat) (q : qM) (v : Int32) : (wm_fs ad q).set 25 (.int v) = wm_fs ad (mq_i q 25 0 v) := rfl
theorem ws_31 (ad : Nat → Nat → Nat) (q : qM) (v : Int32) : (wm_fs ad q).set 31 (.int v) = wm_fs ad (mq_i q 31 0 v) := rfl
def PW (Pc : Nat → Nat → Option va_E) (cA : Nat → ClassId) (ad : Nat → Nat → Nat) (m : qM) : Nat → Nat → Option va_E := fun k j => if k = 20 then (if j = 0 then some (.inr (7, wm_fs ad m)) else none) else if k = 21 then wm_arr cA m j else Pc k j
theorem PW_obj {Pc : Nat → Nat → Option va_E} {cA : Nat → ClassId} {ad : Nat → Nat → Nat} {m : qM} : PW Pc cA ad m 20 0 = some (.inr (7, wm_fs ad m)) := rfl
theorem PW_int {Pc : Nat → Nat → Option va_E} {cA : Nat → ClassId} {ad : Nat → Nat → Nat} {m : qM} (f n : Nat) (h : wm_kind f = (1, n)) : PW Pc cA ad m 21 f = some (.inl (cA 0, n, .inl (m.1 f))) := by
  show wm_arr cA m f = _
  unfold wm_arr; rw [h]; rfl
theorem PW_boo {Pc : Nat → Nat → Option va_E} {cA : Nat → ClassId} {ad : Nat → Nat → Nat} {m : qM} (f n : Nat) (h : wm_kind f = (2, n)) : PW Pc cA ad m 21 f = some (.inl (cA 2, n, .inl (m.1 f))) := by
  show wm_arr cA m f = _
  unfold wm_arr; rw [h]; rfl
theorem PW_lon {Pc : Nat → Nat → Option va_E} {cA : Nat → ClassId} {ad : Nat → Nat → Nat} {m : qM} (f n : Nat) (h : wm_kind f = (3, n)) : PW Pc cA ad m 21 f = some (.inl (cA 1, n, .inr (.inl (m.2 f)))) := by
  show wm_arr cA m f = _
  unfold wm_arr; rw [h]; rfl
theorem mq_i_self (m : qM) (f i : Nat) (v : Int32) : (mq_i m f i v).1 f = upd (m.1 f) i v := by simp [mq_i]
theorem mq_i_ne (m : qM) {f g i : Nat} (v : Int32) (h : g ≠ f) : (mq_i m f i v).1 g = m.1 g := by simp [mq_i, h]
theorem mq_same (m : qM) (f i : Nat) (v : Int32) : (mq_i m f i v).1 f i = v := by simp [mq_i, upd]
theorem mq_same_l (m : qM) (f i : Nat) (v : Int64) : (mq_l m f i v).2 f i = v := by simp [mq_l, vp_updL]
theorem mq_ne {m : qM} {f i g j : Nat} {v : Int32} (h : g ≠ f) : (mq_i m f i v).1 g j = m.1 g j := by simp [mq_i, h]
theorem mq_nel {m : qM} {f i g j : Nat} {v : Int64} : (mq_l m f i v).1 g j = m.1 g j := rfl
theorem ml_ne {m : qM} {f i g j : Nat} {v : Int64} (h : g ≠ f) : (mq_l m f i v).2 g j = m.2 g j := by simp [mq_l, h]
theorem ml_nei {m : qM} {f i g j : Nat} {v : Int32} : (mq_i m f i v).2 g j = m.2 g j := rfl
theorem mq_i_2 (m : qM) (f i : Nat) (v : Int32) : (mq_i m f i v).2 = m.2 := rfl
theorem mq_l_self (m : qM) (f i : Nat) (v : Int64) : (mq_l m f i v).2 f = vp_updL (m.2 f) i v := by simp [mq_l]
theorem mq_l_ne (m : qM) {f g i : Nat} (v : Int64) (h : g ≠ f) : (mq_l m f i v).2 g = m.2 g := by simp [mq_l, h]
theorem mq_l_1 (m : qM) (f i : Nat) (v : Int64) : (mq_l m f i v).1 = m.1 := rfl
/-- an array's place is written: no other cell changes -/
theorem PW_i2 {Pc : Nat → Nat → Option va_E} {cA : Nat → ClassId} {ad : Nat → Nat → Nat} {m : qM} {f i : Nat} {v : Int32} (hf : ¬ (f = 0 ∨ f = 2 ∨ f = 3 ∨ f = 12 ∨ f = 25 ∨ f = 31)) : ∀ a b, ¬ (a = 21 ∧ b = f) → PW Pc cA ad (mq_i m f i v) a b = PW Pc cA ad m a b := by
  intro a b h
  unfold PW
  by_cases h1 : a = 20
  · have e : ∀ g, (g = 0 ∨ g = 2 ∨ g = 3 ∨ g = 12 ∨ g = 25 ∨ g = 31) → (mq_i m f i v).1 g = m.1 g := fun g hg => mq_i_ne m v (fun q => hf (q ▸ hg))
    rw [if_pos h1, if_pos h1]
    unfold wm_fs
    rw [e 0 (by simp), e 2 (by simp), e 3 (by simp), e 12 (by simp), e 25 (by simp), e 31 (by simp)]
  · rw [if_neg h1, if_neg h1]
    by_cases h2 : a = 21
    · rw [if_pos h2, if_pos h2]
      have hb : b ≠ f := fun q => h ⟨h2, q⟩
      unfold wm_arr
      rw [mq_i_ne m v hb]; rfl
    · rw [if_neg h2, if_neg h2]
theorem PW_l2 {Pc : Nat → Nat → Option va_E} {cA : Nat → ClassId} {ad : Nat → Nat → Nat} {m : qM} {f i : Nat} {v : Int64} : ∀ a b, ¬ (a = 21 ∧ b = f) → PW Pc cA ad (mq_l m f i v) a b = PW Pc cA ad m a b := by
  intro a b h
  unfold PW
  by_cases h1 : a = 20
  · rw [if_pos h1, if_pos h1]; rfl
  · rw [if_neg h1, if_neg h1]
    by_cases h2 : a = 21
    · rw [if_pos h2, if_pos h2]
      have hb : b ≠ f := fun q => h ⟨h2, q⟩
      unfold wm_arr
      rw [mq_l_ne m v hb]; rfl
    · rw [if_neg h2, if_neg h2]
/-- a number of the object is written -/
theorem PW_s2 {Pc : Nat → Nat → Option va_E} {cA : Nat → ClassId} {ad : Nat → Nat → Nat} {m : qM} {f i : Nat} {v : Int32} (hf : (wm_kind f).1 = 0) : ∀ a b, ¬ (a = 20 ∧ b = 0) → PW Pc cA ad (mq_i m f i v) a b = PW Pc cA ad m a b := by
  intro a b h
  unfold PW
  by_cases h1 : a = 20
  · rw [if_pos h1, if_pos h1, if_neg (fun q => h ⟨h1, q⟩), if_neg (fun q => h ⟨h1, q⟩)]
  · rw [if_neg h1, if_neg h1]
    by_cases h2 : a = 21
    · rw [if_pos h2, if_pos h2]
      unfold wm_arr
      by_cases hb : b = f
      · subst hb
        generalize hk : wm_kind b = k
        rw [hk] at hf
        obtain ⟨k1, k2⟩ := k
        simp at hf
        subst hf
        rfl
      · rw [mq_i_ne m v hb]; rfl
    · rw [if_neg h2, if_neg h2]
def wA (b0 : Nat) : Nat → Prop := fun q => b0 ≤ q
def WP (D : va_G) (b0 : Nat) (Pc : Nat → Nat → Option va_E) (cA : Nat → ClassId) (ad : Nat → Nat → Nat) (m : qM) (U : State) : Prop := va_K D vwCl (wd_tys cA) U ∧ wd D (wA b0) (PW Pc cA ad m) ad U.heap
end
section
/-! contracts of the reference's methods: what a method answers, and the state behind it, are E.1 and E.2 -/
def mc_i (l : Launch) (y : MethodName) (ws : List Cond) (fr lo : Nat) (D : va_G) (b0 : Nat) (Pc : Nat → Nat → Option va_E) (cA : Nat → ClassId) (ad : Nat → Nat → Nat) (m : qM) (av : List Value) (E : Int32 × qM) : Prop :=
  Met l y ws { frames := fr, cells := 0, slots := 0, locals := lo } (va_Pc av (WP D b0 Pc cA ad m)) (va_Qi (fun r (_ : Unit) => r = E.1) (fun _ U => WP D b0 Pc cA ad E.2 U) (wA b0)) 0 0 (wA b0)
def mc_l (l : Launch) (y : MethodName) (ws : List Cond) (fr lo : Nat) (D : va_G) (b0 : Nat) (Pc : Nat → Nat → Option va_E) (cA : Nat → ClassId) (ad : Nat → Nat → Nat) (m : qM) (av : List Value) (E : Int64 × qM) : Prop :=
  Met l y ws { frames := fr, cells := 0, slots := 0, locals := lo } (va_Pc av (WP D b0 Pc cA ad m)) (va_Ql (fun r (_ : Unit) => r = E.1) (fun _ U => WP D b0 Pc cA ad E.2 U) (wA b0)) 0 0 (wA b0)
def mc_v (l : Launch) (y : MethodName) (ws : List Cond) (fr lo : Nat) (D : va_G) (b0 : Nat) (Pc : Nat → Nat → Option va_E) (cA : Nat → ClassId) (ad : Nat → Nat → Nat) (m : qM) (av : List Value) (E : qM) : Prop :=
  Met l y ws { frames := fr, cells := 0, slots := 0, locals := lo } (va_Pc av (WP D b0 Pc cA ad m)) (va_Qv (fun (_ : Unit) => True) (fun _ U => WP D b0 Pc cA ad E U) (wA b0)) 0 0 (wA b0)
theorem WP_blind {D : va_G} {b0 : Nat} {Pc : Nat → Nat → Option va_E} {cA : Nat → ClassId} {ad : Nat → Nat → Nat} {m : qM} {av : List Value} : FrameBlind (va_Pc av (WP D b0 Pc cA ad m)) := fun a U g mk q => by
  obtain ⟨q0, qK, qW⟩ := q
  exact ⟨q0, va_K.moved (u := U) (U := U.calling g mk a) (Vm.Alike.refl U.vm) qK, qW⟩
section MCO
variable {l : Launch} {y : MethodName} {ws ws' : List Cond} {fr lo : Nat} {D : va_G} {b0 : Nat} {Pc : Nat → Nat → Option va_E} {cA : Nat → ClassId} {ad : Nat → Nat → Nat} {q : qM} {av : List Value} {cc : ByteArray} {maxL : Nat} {ret : Option FieldType} {Qc : Array Value → State → Outcome → State → Prop}
/-- how a contract's proof begins -/
theorem mc_of (hy : plainName y.cls = true) (hw : ws = Cond.code y cc maxL ret :: ws') (hl : (lg_sl av).length ≤ maxL)
    (body : ∀ (p : Program) (e : Env) (s : State) (m : MethodId) (below : List Frame) (meth : Method) (c : Code), p.tables.exec = Jvm.exec → c.code = cc → c.maxLocals = maxL → meth.sig.returnType = ret → meth.locks = false → s.vm.findClass y.cls = some m.cls → (∀ w ∈ ws, w.before av.toArray s = true) → va_K D vwCl (wd_tys cA) s → wd D (wA b0) (PW Pc cA ad q) ad s.heap →
      ∀ ls : Array Slot, lv_has ls maxL (lv_args 0 av) → W p l e { frames := fr, cells := 0, slots := 0, locals := lo } s m av.toArray below meth c s.heap [] 0 0 (MQ below Qc av.toArray s 0 0 (wA b0)) (F0 m 0 ls [])) :
    Met l y ws { frames := fr, cells := 0, slots := 0, locals := lo } (va_Pc av (WP D b0 Pc cA ad q)) Qc 0 0 (wA b0) := by
  refine Met.ofW (cc := cc) (maxL := maxL) (ret := ret) hy hw ?_
  intro p e s m args below meth c s₁ B hml hv
  obtain ⟨rfl, hK, hW⟩ := hv
  have hts := atoms_spec (ws := ws) B.pre
  have hl2 := lv_entry av hl
  rw [lg_entry_eq]
  exact body p e s m below meth c B.exec B.bytes hml B.returns B.notSynchronized (findClass_of_methodNamed B.named) hts hK hW _ hl2
end MCO
section MCR
variable {p : Program} {l : Launch} {e : Env} {R : Room} {s : State} {m : MethodId} {args : Array Value} {below : List Frame} {meth : Method} {c : Code} {H : Heap} {locs : List Loc} {cells slots : Nat} {Q : State → Prop}
variable {cc : ByteArray} {pc : Nat} {ls : Array Slot} {rest st : List Value} {D : va_G} {b0 : Nat} {Pc : Nat → Nat → Option va_E} {cA : Nat → ClassId} {ad : Nat → Nat → Nat} {q q' : qM} {Ts : List Cond} {index nL : Nat}
/-- the ends -/
theorem mm_iret {E : Int32 × qM} {v : Int32} (hx : p.tables.exec = Jvm.exec) (hb : c.code = cc) (hr : meth.sig.returnType = some .int) (hlk : meth.locks = false) (hK : va_K D vwCl (wd_tys cA) s) (hW : wd D (wA b0) (PW Pc cA ad q) ad H) (hS : va_S (wA b0) s.heap H locs) (hE : (v, q) = E) (hdg : decode cc pc = .ok (.ireturn, 1)) :
    W p l e R s m args below meth c H locs 0 0 (MQ below (va_Qi (fun r (_ : Unit) => r = E.1) (fun _ U => WP D b0 Pc cA ad E.2 U) (wA b0)) args s 0 0 (wA b0)) (F0 m pc ls [.int v]) := by
  subst hE
  exact W.iret hx hb hr (fun t ht hw => ⟨⟨v, (), rfl, rfl, va_K.moved hw.alike hK, by rw [ht]; exact hW⟩, hS.F ht⟩) hS.2.2 hdg hlk
theorem mm_zret {E : Int32 × qM} {v : Int32} (hx : p.tables.exec = Jvm.exec) (hb : c.code = cc) (hr : meth.sig.returnType = some .boolean) (hlk : meth.locks = false) (hK : va_K D vwCl (wd_tys cA) s) (hW : wd D (wA b0) (PW Pc cA ad q) ad H) (hS : va_S (wA b0) s.heap H locs) (hn : narrow .boolean (.int v) = .int v) (hE : (v, q) = E) (hdg : decode cc pc = .ok (.ireturn, 1)) :
    W p l e R s m args below meth c H locs 0 0 (MQ below (va_Qi (fun r (_ : Unit) => r = E.1) (fun _ U => WP D b0 Pc cA ad E.2 U) (wA b0)) args s 0 0 (wA b0)) (F0 m pc ls [.int v]) := by
  subst hE
  exact W.zret hx hb hr hn (fun t ht hw => ⟨⟨v, (), rfl, rfl, va_K.moved hw.alike hK, by rw [ht]; exact hW⟩, hS.F ht⟩) hS.2.2 hdg hlk
theorem mm_lret {E : Int64 × qM} {v : Int64} (hx : p.tables.exec = Jvm.exec) (hb : c.code = cc) (hr : meth.sig.returnType = some .long) (hlk : meth.locks = false) (hK : va_K D vwCl (wd_tys cA) s) (hW : wd D (wA b0) (PW Pc cA ad q) ad H) (hS : va_S (wA b0) s.heap H locs) (hE : (v, q) = E) (hdg : decode cc pc = .ok (.lreturn, 1)) :
    W p l e R s m args below meth c H locs 0 0 (MQ below (va_Ql (fun r (_ : Unit) => r = E.1) (fun _ U => WP D b0 Pc cA ad E.2 U) (wA b0)) args s 0 0 (wA b0)) (F0 m pc ls [.long v]) := by
  subst hE
  exact W.lret hx hb hr (fun t ht hw => ⟨⟨v, (), rfl, rfl, va_K.moved hw.alike hK, by rw [ht]; exact hW⟩, hS.F ht⟩) hS.2.2 hdg hlk
theorem mm_vret {E : qM} (hx : p.tables.exec = Jvm.exec) (hb : c.code = cc) (hr : meth.sig.returnType = none) (hlk : meth.locks = false) (hK : va_K D vwCl (wd_tys cA) s) (hW : wd D (wA b0) (PW Pc cA ad q) ad H) (hS : va_S (wA b0) s.heap H locs) (hE : q = E) (hdg : decode cc pc = .ok (.return_, 1)) :
    W p l e R s m args below meth c H locs 0 0 (MQ below (va_Qv (fun (_ : Unit) => True) (fun _ U => WP D b0 Pc cA ad E U) (wA b0)) args s 0 0 (wA b0)) (F0 m pc ls []) := by
  subst hE
  exact W.vret hx hb hr (fun t ht hw => ⟨⟨(), rfl, trivial, va_K.moved hw.alike hK, by rw [ht]; exact hW⟩, hS.F ht⟩) hS.2.2 hdg hlk
/-- the object's fields -/
theorem mm_get (hx : p.tables.exec = Jvm.exec) (hb : c.code = cc) (hts : ∀ w ∈ Ts, w.before args s = true) (hin : ∀ w ∈ wsX80, w ∈ Ts) (hown : s.vm.findClass RX8 = some m.cls) (hK : va_K D vwCl (wd_tys cA) s) (hW : wd D (wA b0) (PW Pc cA ad q) ad H) (f : Nat) (hf : f < 34) (hlink : (Cond.fieldLink RX8 index RX8 (TX8 f).2.1 (TX8 f).2.2.1) ∈ Ts) (h1 : (TX8 f).1 = RX8) {v : Value} (hv : (wm_fs ad q)[f]? = some v) (hdg : decode cc pc = .ok (.getfield index, 3))
    (kk : W p l e R s m args below meth c H locs cells slots Q (F0 m (pc + 3) ls (v :: rest))) : W p l e R s m args below meth c H locs cells slots Q (F0 m pc ls (.ref (ad 20 0) :: rest)) :=
  va_get (D := D) (ci := 7) (C := RX8) (T := TX8) (N := 34) hx hb hts hin hown hK (wd_one hW 20 0 PW_obj) 0 rfl rfl f hf (hts _ hlink) (fun _ h9 => by rw [h1] at h9; exact h9) hv hdg kk
theorem mm_gets (hx : p.tables.exec = Jvm.exec) (hb : c.code = cc) (hts : ∀ w ∈ Ts, w.before args s = true) (hin : ∀ w ∈ wsX80, w ∈ Ts) (hown : s.vm.findClass RX8 = some m.cls) (hK : va_K D vwCl (wd_tys cA) s) (hW : wd D (wA b0) (PW Pc cA ad q) ad H) (f : Nat) (hf : f < 34) (hlink : (Cond.fieldLink RX8 index RX8 (TX8 f).2.1 (TX8 f).2.2.1) ∈ Ts) (h1 : (TX8 f).1 = RX8) {v : Int32} (hf2 : (wm_fs ad q)[f]? = some (.int (q.1 f 0))) (hv : q.1 f 0 = v) (hdg : decode cc pc = .ok (.getfield index, 3))
    (kk : W p l e R s m args below meth c H locs cells slots Q (F0 m (pc + 3) ls (.int v :: rest))) : W p l e R s m args below meth c H locs cells slots Q (F0 m pc ls (.ref (ad 20 0) :: rest)) :=
  va_get (D := D) (ci := 7) (C := RX8) (T := TX8) (N := 34) hx hb hts hin hown hK (wd_one hW 20 0 PW_obj) 0 rfl rfl f hf (hts _ hlink) (fun _ h9 => by rw [h1] at h9; exact h9) hf2 hdg (by rw [hv]; exact kk)
theorem mm_put (hx : p.tables.exec = Jvm.exec) (hb : c.code = cc) (hts : ∀ w ∈ Ts, w.before args s = true) (hin : ∀ w ∈ wsX80, w ∈ Ts) (hown : s.vm.findClass RX8 = some m.cls) (hK : va_K D vwCl (wd_tys cA) s) (hW : wd D (wA b0) (PW Pc cA ad q) ad H) (hS : va_S (wA b0) s.heap H locs) (f : Nat) (hf : f < 34) (hlink : (Cond.fieldLink RX8 index RX8 (TX8 f).2.1 (TX8 f).2.2.1) ∈ Ts) (h1 : (TX8 f).1 = RX8) (hfin : (TX8 f).2.2.2 = false) (hd : parseFieldDescriptor (TX8 f).2.2.1 = some .int) (hk : (wm_kind f).1 = 0) {v : Int32} (hv : (wm_fs ad q).set f (.int v) = wm_fs ad (mq_i q f 0 v)) (hdg : decode cc pc = .ok (.putfield index, 3))
    (kk : ∀ (H1 : Heap) (locs1 : List Loc), wd D (wA b0) (PW Pc cA ad (mq_i q f 0 v)) ad H1 → va_S (wA b0) s.heap H1 locs1 → W p l e R s m args below meth c H1 locs1 cells slots Q (F0 m (pc + 3) ls rest)) : W p l e R s m args below meth c H locs cells slots Q (F0 m pc ls (.int v :: .ref (ad 20 0) :: rest)) :=
  wd_put (D := D) (ci := 7) (C := RX8) (T := TX8) (N := 34) hx hb hts hin tyX8 tyX8_ok nmX8 hown hK hW hS 20 0 PW_obj rfl f hf (hts _ hlink) (fun _ h9 => by rw [h1] at h9; exact h9) hfin hd rfl rfl (Nat.lt_of_lt_of_eq hf rfl) (by rw [PW_obj, hv]) (PW_s2 hk) hdg kk
/-- the arrays -/
theorem mm_iald (hx : p.tables.exec = Jvm.exec) (hb : c.code = cc) (hK : va_K D vwCl (wd_tys cA) s) (hW : wd D (wA b0) (PW Pc cA ad q) ad H) (f n : Nat) (hf : wm_kind f = (1, n)) {i : Int32} {v : Int32} (hin : vp_in i n) (hv : q.1 f i.toNatClampNeg = v) (hdg : decode cc pc = .ok (.iaload, 1))
    (kk : W p l e R s m args below meth c H locs cells slots Q (F0 m (pc + 1) ls (.int v :: rest))) : W p l e R s m args below meth c H locs cells slots Q (F0 m pc ls (.int i :: .ref (ad 21 f) :: rest)) :=
  va_iald hx hb hK (wd_one hW 21 f (PW_int f n hf)) 0 0 rfl rfl hin hdg (by rw [hv]; exact kk)
theorem mm_zald (hx : p.tables.exec = Jvm.exec) (hb : c.code = cc) (hK : va_K D vwCl (wd_tys cA) s) (hW : wd D (wA b0) (PW Pc cA ad q) ad H) (f n : Nat) (hf : wm_kind f = (2, n)) {i : Int32} {v : Int32} (hin : vp_in i n) (hv : q.1 f i.toNatClampNeg = v) (hdg : decode cc pc = .ok (.baload, 1))
    (kk : W p l e R s m args below meth c H locs cells slots Q (F0 m (pc + 1) ls (.int v :: rest))) : W p l e R s m args below meth c H locs cells slots Q (F0 m pc ls (.int i :: .ref (ad 21 f) :: rest)) :=
  va_zald hx hb hK (wd_one hW 21 f (PW_boo f n hf)) 0 2 rfl rfl hin hdg (by rw [hv]; exact kk)
theorem mm_lald (hx : p.tables.exec = Jvm.exec) (hb : c.code = cc) (hK : va_K D vwCl (wd_tys cA) s) (hW : wd D (wA b0) (PW Pc cA ad q) ad H) (f n : Nat) (hf : wm_kind f = (3, n)) {i : Int32} {v : Int64} (hin : vp_in i n) (hv : q.2 f i.toNatClampNeg = v) (hdg : decode cc pc = .ok (.laload, 1))
    (kk : W p l e R s m args below meth c H locs cells slots Q (F0 m (pc + 1) ls (.long v :: rest))) : W p l e R s m args below meth c H locs cells slots Q (F0 m pc ls (.int i :: .ref (ad 21 f) :: rest)) :=
  va_lald hx hb hK (wd_one hW 21 f (PW_lon f n hf)) 0 1 rfl rfl hin hdg (by rw [hv]; exact kk)
theorem mm_ns {f n k : Nat} (h : wm_kind f = (k + 1, n)) : ¬ (f = 0 ∨ f = 2 ∨ f = 3 ∨ f = 12 ∨ f = 25 ∨ f = 31) := by
  intro q
  rcases q with rfl | rfl | rfl | rfl | rfl | rfl <;> · simp [wm_kind] at h
theorem mm_iast (hx : p.tables.exec = Jvm.exec) (hb : c.code = cc) (hK : va_K D vwCl (wd_tys cA) s) (hW : wd D (wA b0) (PW Pc cA ad q) ad H) (hS : va_S (wA b0) s.heap H locs) (f n : Nat) (hf : wm_kind f = (1, n)) {i v : Int32} (hin : vp_in i n) (hdg : decode cc pc = .ok (.iastore, 1))
    (kk : ∀ (H1 : Heap) (locs1 : List Loc), wd D (wA b0) (PW Pc cA ad (mq_i q f i.toNatClampNeg v)) ad H1 → va_S (wA b0) s.heap H1 locs1 → W p l e R s m args below meth c H1 locs1 cells slots Q (F0 m (pc + 1) ls rest)) : W p l e R s m args below meth c H locs cells slots Q (F0 m pc ls (.int v :: .int i :: .ref (ad 21 f) :: rest)) :=
  wd_iast hx hb hK hW hS 21 f 0 (PW_int f n hf) rfl hin (by rw [PW_int f n hf, mq_i_self]) (PW_i2 (mm_ns hf)) hdg kk
theorem mm_zast (hx : p.tables.exec = Jvm.exec) (hb : c.code = cc) (hK : va_K D vwCl (wd_tys cA) s) (hW : wd D (wA b0) (PW Pc cA ad q) ad H) (hS : va_S (wA b0) s.heap H locs) (f n : Nat) (hf : wm_kind f = (2, n)) {i v : Int32} (hv : vp_nar .boolean v = v) (hin : vp_in i n) (hdg : decode cc pc = .ok (.bastore, 1))
    (kk : ∀ (H1 : Heap) (locs1 : List Loc), wd D (wA b0) (PW Pc cA ad (mq_i q f i.toNatClampNeg v)) ad H1 → va_S (wA b0) s.heap H1 locs1 → W p l e R s m args below meth c H1 locs1 cells slots Q (F0 m (pc + 1) ls rest)) : W p l e R s m args below meth c H locs cells slots Q (F0 m pc ls (.int v :: .int i :: .ref (ad 21 f) :: rest)) :=
  wd_zast hx hb hK hW hS 21 f 2 (PW_boo f n hf) rfl hv hin (by rw [PW_boo f n hf, mq_i_self]) (PW_i2 (mm_ns hf)) hdg kk
theorem mm_last (hx : p.tables.exec = Jvm.exec) (hb : c.code = cc) (hK : va_K D vwCl (wd_tys cA) s) (hW : wd D (wA b0) (PW Pc cA ad q) ad H) (hS : va_S (wA b0) s.heap H locs) (f n : Nat) (hf : wm_kind f = (3, n)) {i : Int32} {v : Int64} (hin : vp_in i n) (hdg : decode cc pc = .ok (.lastore, 1))
    (kk : ∀ (H1 : Heap) (locs1 : List Loc), wd D (wA b0) (PW Pc cA ad (mq_l q f i.toNatClampNeg v)) ad H1 → va_S (wA b0) s.heap H1 locs1 → W p l e R s m args below meth c H1 locs1 cells slots Q (F0 m (pc + 1) ls rest)) : W p l e R s m args below meth c H locs cells slots Q (F0 m pc ls (.long v :: .int i :: .ref (ad 21 f) :: rest)) :=
  wd_last hx hb hK hW hS 21 f 1 (PW_lon f n hf) rfl hin (by rw [PW_lon f n hf, mq_l_self]) PW_l2 hdg kk
/-- calls of the reference's methods -/
theorem mm_recv (hK : va_K D vwCl (wd_tys cA) s) (hW : wd D (wA b0) (PW Pc cA ad q) ad H) : ∃ cellB : Cell, H[ad 20 0]? = some cellB ∧ cellB.vm.isStatics = false ∧ s.vm.findClass RX8 = some cellB.cls :=
  va_recv hK (wd_one hW 20 0 PW_obj) (ci := 7) (q := (RX8, TX8, 34)) (q0 := 0) rfl rfl
theorem mm_preV {As : List Value} (hK : va_K D vwCl (wd_tys cA) s) (hW : wd D (wA b0) (PW Pc cA ad q) ad H) : PreV s H RX8 (ad 20 0) (va_Pc (.ref (ad 20 0) :: As) (WP D b0 Pc cA ad q)) As :=
  ⟨WP_blind, mm_recv hK hW, fun U hU hw => ⟨rfl, va_K.moved hw.alike hK, by rw [hU]; exact hW⟩⟩
theorem mm_preS {As : List Value} (hK : va_K D vwCl (wd_tys cA) s) (hW : wd D (wA b0) (PW Pc cA ad q) ad H) : PreS s H (va_Pc As (WP D b0 Pc cA ad q)) As :=
  ⟨WP_blind, fun U hU hw => ⟨rfl, va_K.moved hw.alike hK, by rw [hU]; exact hW⟩⟩
variable {y : MethodName} {ws ws' : List Cond} {fr lo maxL n : Nat} {bytes : ByteArray} {ret : Option FieldType} {As : List Value} {own : String}
theorem mm_callVi {r : Int32} {q2 : qM} (S : CallFix p m c cc nL s args Ts own) (hM : mc_i l y ws fr lo D b0 Pc cA ad q (.ref (ad 20 0) :: As) (r, q2)) (hT : GoodIn Ts (wsV own index RX8 y ws)) (hw : ws = Cond.code y bytes maxL ret :: ws') (hd : y.cls = RX8 ∧ y.cls ≠ "java/lang/invoke/MethodHandle" ∧ y.cls ≠ "java/lang/invoke/VarHandle" ∧ (parseMethodDescriptor y.desc).map (fun d => d.parameters.length) = some n) (hn : As.length = n) (hR : fr + 1 ≤ R.frames ∧ 8 + (maxL + 11) + lo ≤ R.locals) (hf : cells ≤ R.cells ∧ slots ≤ R.slots)
    (hK : va_K D vwCl (wd_tys cA) s) (hW : wd D (wA b0) (PW Pc cA ad q) ad H) (hS : va_S (wA b0) s.heap H locs) (hsz : ls.size = nL) (hst : st = As.reverse ++ .ref (ad 20 0) :: rest) (hrm : (rest.map fun v => v.category).sum ≤ 8) (hdg : decode cc pc = .ok (.invokevirtual index, 3))
    (kk : ∀ (H1 : Heap) (locs1 : List Loc), wd D (wA b0) (PW Pc cA ad q2) ad H1 → va_S (wA b0) s.heap H1 locs1 → W p l e R s m args below meth c H1 locs1 cells slots Q (F0 m (pc + 3) ls (.int r :: rest))) : W p l e R s m args below meth c H locs cells slots Q (F0 m pc ls st) := by
  refine va_calli (va_runV (As := As) (rest := rest) S hM (cwV n S.2.2.2.2 hT hw rfl rfl hd hR) (mm_preV hK hW) rfl hn hsz hst (lv_room hrm) hdg hf) hS (fun q _ h => h) (fun q h => h) (fun r2 u t H1 locs1 ht hvm hp hB _ _ hS1 => ?_)
  subst hp
  exact kk H1 locs1 (by rw [← ht]; exact hB.2) hS1
theorem mm_callVl {r : Int64} {q2 : qM} (S : CallFix p m c cc nL s args Ts own) (hM : mc_l l y ws fr lo D b0 Pc cA ad q (.ref (ad 20 0) :: As) (r, q2)) (hT : GoodIn Ts (wsV own index RX8 y ws)) (hw : ws = Cond.code y bytes maxL ret :: ws') (hd : y.cls = RX8 ∧ y.cls ≠ "java/lang/invoke/MethodHandle" ∧ y.cls ≠ "java/lang/invoke/VarHandle" ∧ (parseMethodDescriptor y.desc).map (fun d => d.parameters.length) = some n) (hn : As.length = n) (hR : fr + 1 ≤ R.frames ∧ 8 + (maxL + 11) + lo ≤ R.locals) (hf : cells ≤ R.cells ∧ slots ≤ R.slots)
    (hK : va_K D vwCl (wd_tys cA) s) (hW : wd D (wA b0) (PW Pc cA ad q) ad H) (hS : va_S (wA b0) s.heap H locs) (hsz : ls.size = nL) (hst : st = As.reverse ++ .ref (ad 20 0) :: rest) (hrm : (rest.map fun v => v.category).sum ≤ 8) (hdg : decode cc pc = .ok (.invokevirtual index, 3))
    (kk : ∀ (H1 : Heap) (locs1 : List Loc), wd D (wA b0) (PW Pc cA ad q2) ad H1 → va_S (wA b0) s.heap H1 locs1 → W p l e R s m args below meth c H1 locs1 cells slots Q (F0 m (pc + 3) ls (.long r :: rest))) : W p l e R s m args below meth c H locs cells slots Q (F0 m pc ls st) := by
  refine va_calll (va_runV (As := As) (rest := rest) S hM (cwV n S.2.2.2.2 hT hw rfl rfl hd hR) (mm_preV hK hW) rfl hn hsz hst (lv_room hrm) hdg hf) hS (fun q _ h => h) (fun q h => h) (fun r2 u t H1 locs1 ht hvm hp hB _ _ hS1 => ?_)
  subst hp
  exact kk H1 locs1 (by rw [← ht]; exact hB.2) hS1
theorem mm_callVv {q2 : qM} (S : CallFix p m c cc nL s args Ts own) (hM : mc_v l y ws fr lo D b0 Pc cA ad q (.ref (ad 20 0) :: As) q2) (hT : GoodIn Ts (wsV own index RX8 y ws)) (hw : ws = Cond.code y bytes maxL ret :: ws') (hd : y.cls = RX8 ∧ y.cls ≠ "java/lang/invoke/MethodHandle" ∧ y.cls ≠ "java/lang/invoke/VarHandle" ∧ (parseMethodDescriptor y.desc).map (fun d => d.parameters.length) = some n) (hn : As.length = n) (hR : fr + 1 ≤ R.frames ∧ 8 + (maxL + 11) + lo ≤ R.locals) (hf : cells ≤ R.cells ∧ slots ≤ R.slots)
    (hK : va_K D vwCl (wd_tys cA) s) (hW : wd D (wA b0) (PW Pc cA ad q) ad H) (hS : va_S (wA b0) s.heap H locs) (hsz : ls.size = nL) (hst : st = As.reverse ++ .ref (ad 20 0) :: rest) (hrm : (rest.map fun v => v.category).sum ≤ 8) (hdg : decode cc pc = .ok (.invokevirtual index, 3))
    (kk : ∀ (H1 : Heap) (locs1 : List Loc), wd D (wA b0) (PW Pc cA ad q2) ad H1 → va_S (wA b0) s.heap H1 locs1 → W p l e R s m args below meth c H1 locs1 cells slots Q (F0 m (pc + 3) ls rest)) : W p l e R s m args below meth c H locs cells slots Q (F0 m pc ls st) := by
  refine va_callv (va_runV (As := As) (rest := rest) S hM (cwV n S.2.2.2.2 hT hw rfl rfl hd hR) (mm_preV hK hW) rfl hn hsz hst (lv_room hrm) hdg hf) hS (fun q _ h => h) (fun q h => h) (fun u t H1 locs1 ht hvm hp hB _ _ hS1 => ?_)
  exact kk H1 locs1 (by rw [← ht]; exact hB.2) hS1
theorem mm_callSi {r : Int32} {q2 : qM} (S : CallFix p m c cc nL s args Ts own) (hM : mc_i l y ws fr lo D b0 Pc cA ad q As (r, q2)) (hT : GoodIn Ts (va_wsS own index y ws)) (hw : ws = Cond.code y bytes maxL ret :: ws') (hd : y.cls ≠ "java/lang/invoke/MethodHandle" ∧ y.cls ≠ "java/lang/invoke/VarHandle" ∧ (parseMethodDescriptor y.desc).map (fun d => d.parameters.length) = some n) (hn : As.length = n) (hR : fr + 1 ≤ R.frames ∧ 8 + (maxL + 11) + lo ≤ R.locals) (hf : cells ≤ R.cells ∧ slots ≤ R.slots)
    (hK : va_K D vwCl (wd_tys cA) s) (hW : wd D (wA b0) (PW Pc cA ad q) ad H) (hS : va_S (wA b0) s.heap H locs) (hsz : ls.size = nL) (hst : st = As.reverse ++ rest) (hrm : (rest.map fun v => v.category).sum ≤ 8) (hdg : decode cc pc = .ok (.invokestatic index, 3))
    (kk : ∀ (H1 : Heap) (locs1 : List Loc), wd D (wA b0) (PW Pc cA ad q2) ad H1 → va_S (wA b0) s.heap H1 locs1 → W p l e R s m args below meth c H1 locs1 cells slots Q (F0 m (pc + 3) ls (.int r :: rest))) : W p l e R s m args below meth c H locs cells slots Q (F0 m pc ls st) := by
  refine va_calli (va_runS (As := As) (rest := rest) S hM (va_cwS n S.2.2.2.2 hT hw rfl rfl hd hR) (mm_preS hK hW) rfl hn hsz hst (lv_room hrm) hdg hf) hS (fun q _ h => h) (fun q h => h) (fun r2 u t H1 locs1 ht hvm hp hB _ _ hS1 => ?_)
  subst hp
  exact kk H1 locs1 (by rw [← ht]; exact hB.2) hS1
theorem mm_callSl {r : Int64} {q2 : qM} (S : CallFix p m c cc nL s args Ts own) (hM : mc_l l y ws fr lo D b0 Pc cA ad q As (r, q2)) (hT : GoodIn Ts (va_wsS own index y ws)) (hw : ws = Cond.code y bytes maxL ret :: ws') (hd : y.cls ≠ "java/lang/invoke/MethodHandle" ∧ y.cls ≠ "java/lang/invoke/VarHandle" ∧ (parseMethodDescriptor y.desc).map (fun d => d.parameters.length) = some n) (hn : As.length = n) (hR : fr + 1 ≤ R.frames ∧ 8 + (maxL + 11) + lo ≤ R.locals) (hf : cells ≤ R.cells ∧ slots ≤ R.slots)
    (hK : va_K D vwCl (wd_tys cA) s) (hW : wd D (wA b0) (PW Pc cA ad q) ad H) (hS : va_S (wA b0) s.heap H locs) (hsz : ls.size = nL) (hst : st = As.reverse ++ rest) (hrm : (rest.map fun v => v.category).sum ≤ 8) (hdg : decode cc pc = .ok (.invokestatic index, 3))
    (kk : ∀ (H1 : Heap) (locs1 : List Loc), wd D (wA b0) (PW Pc cA ad q2) ad H1 → va_S (wA b0) s.heap H1 locs1 → W p l e R s m args below meth c H1 locs1 cells slots Q (F0 m (pc + 3) ls (.long r :: rest))) : W p l e R s m args below meth c H locs cells slots Q (F0 m pc ls st) := by
  refine va_calll (va_runS (As := As) (rest := rest) S hM (va_cwS n S.2.2.2.2 hT hw rfl rfl hd hR) (mm_preS hK hW) rfl hn hsz hst (lv_room hrm) hdg hf) hS (fun q _ h => h) (fun q h => h) (fun r2 u t H1 locs1 ht hvm hp hB _ _ hS1 => ?_)
  subst hp
  exact kk H1 locs1 (by rw [← ht]; exact hB.2) hS1
end MCR
end
section
/-! numbers: what a sum, a difference, a multiple is as a whole number; conditions as whole numbers -/
theorem rg_e (a : Int32) : -2147483648 ≤ a.toInt ∧ a.toInt < 2147483648 := ⟨Int32.le_toInt a, Int32.toInt_lt a⟩
theorem bm_e (x : Int) : ∃ t : Int, x.bmod 4294967296 = x + 4294967296 * t := by
  have h : x.bmod 4294967296 = if x % 4294967296 < 2147483648 then x % 4294967296 else x % 4294967296 - 4294967296 := by
    first | rfl | (simp only [Int.bmod_def]; rfl) | (simp [Int.bmod]; done)
  rw [h]
  by_cases g : x % 4294967296 < 2147483648
  · rw [if_pos g]; exact ⟨-(x / 4294967296), by omega⟩
  · rw [if_neg g]; exact ⟨-(x / 4294967296) - 1, by omega⟩
theorem ad_e (a b : Int32) : ∃ t : Int, (a + b).toInt = a.toInt + b.toInt + 4294967296 * t ∧ -2147483648 ≤ (a + b).toInt ∧ (a + b).toInt < 2147483648 := by
  obtain ⟨t, h⟩ := bm_e (a.toInt + b.toInt)
  exact ⟨t, by rw [Int32.toInt_add]; exact h, rg_e _⟩
theorem su_e (a b : Int32) : ∃ t : Int, (a - b).toInt = a.toInt - b.toInt + 4294967296 * t ∧ -2147483648 ≤ (a - b).toInt ∧ (a - b).toInt < 2147483648 := by
  obtain ⟨t, h⟩ := bm_e (a.toInt - b.toInt)
  exact ⟨t, by rw [Int32.toInt_sub]; exact h, rg_e _⟩
theorem mu_e (k : Int) (a b : Int32) (ha : a.toInt = k) : ∃ t : Int, (a * b).toInt = k * b.toInt + 4294967296 * t ∧ -2147483648 ≤ (a * b).toInt ∧ (a * b).toInt < 2147483648 := by
  obtain ⟨t, h⟩ := bm_e (a.toInt * b.toInt)
  exact ⟨t, by rw [Int32.toInt_mul, ← ha]; exact h, rg_e _⟩
theorem ad_o (a b : Int32) : ((a + b).toInt = a.toInt + b.toInt ∨ a.toInt + b.toInt < -2147483648 ∨ 2147483647 < a.toInt + b.toInt) ∧ -2147483648 ≤ (a + b).toInt ∧ (a + b).toInt < 2147483648 := by
  obtain ⟨t, h⟩ := ad_e a b
  omega
theorem su_o (a b : Int32) : ((a - b).toInt = a.toInt - b.toInt ∨ a.toInt - b.toInt < -2147483648 ∨ 2147483647 < a.toInt - b.toInt) ∧ -2147483648 ≤ (a - b).toInt ∧ (a - b).toInt < 2147483648 := by
  obtain ⟨t, h⟩ := su_e a b
  omega
theorem mu_o (k : Int) (a b : Int32) (ha : a.toInt = k) : ((a * b).toInt = k * b.toInt ∨ k * b.toInt < -2147483648 ∨ 2147483647 < k * b.toInt) ∧ -2147483648 ≤ (a * b).toInt ∧ (a * b).toInt < 2147483648 := by
  obtain ⟨t, h⟩ := mu_e k a b ha
  generalize k * b.toInt = z at h ⊢
  omega
theorem cv_lt {a b : Int32} (h : a < b) : a.toInt < b.toInt := Int32.lt_iff_toInt_lt.mp h
theorem cv_nlt {a b : Int32} (h : ¬ a < b) : b.toInt ≤ a.toInt := Int.not_lt.mp (fun q => h (Int32.lt_iff_toInt_lt.mpr q))
theorem cv_le {a b : Int32} (h : a ≤ b) : a.toInt ≤ b.toInt := Int32.le_iff_toInt_le.mp h
theorem cv_nle {a b : Int32} (h : ¬ a ≤ b) : b.toInt < a.toInt := Int.not_le.mp (fun q => h (Int32.le_iff_toInt_le.mpr q))
theorem cv_eq {a b : Int32} (h : a = b) : a.toInt = b.toInt := by rw [h]
theorem cv_ne {a b : Int32} (h : ¬ a = b) : ¬ a.toInt = b.toInt := fun q => h (Int32.toInt_inj.mp q)
theorem dv_e (k : Int) (x : Int32) {d : Int32} (hd : d.toInt = k) (hk : 0 < k) : 0 ≤ x.toInt → (x / d).toInt = x.toInt / k := by
  intro hx
  have h1 := Int32.toInt_lt x
  rw [Int32.toInt_div, hd]
  have h2 : x.toInt.tdiv k = x.toInt / k := Int.tdiv_eq_ediv_of_nonneg hx
  rw [h2]
  have h3 : 0 ≤ x.toInt / k := Int.ediv_nonneg hx (by omega)
  have h4 : x.toInt / k ≤ x.toInt := Int.ediv_le_self _ hx
  obtain ⟨t, ht⟩ := bm_e (x.toInt / k)
  have h5 : -2147483648 ≤ (x.toInt / k).bmod 4294967296 ∧ (x.toInt / k).bmod 4294967296 < 2147483648 := by
    have := rg_e (x / d)
    rw [Int32.toInt_div, hd, h2] at this
    exact this
  show (x.toInt / k).bmod 4294967296 = _
  omega
theorem rm_e (k : Int) (x : Int32) {d : Int32} (hd : d.toInt = k) (hk : 0 < k) : 0 ≤ x.toInt → (x - x / d * d).toInt = x.toInt % k := by
  intro hx
  have h1 := Int32.toInt_lt x
  have h2 := dv_e k x hd hk hx
  have h3 : 0 ≤ x.toInt % k := Int.emod_nonneg _ (by omega)
  have h4 : x.toInt % k < k := Int.emod_lt_of_pos _ hk
  have h5 := Int.emod_add_mul_ediv x.toInt k
  have h7 := rg_e d
  have h6 : (x / d * d).toInt = k * (x.toInt / k) := by
    obtain ⟨t, ht⟩ := bm_e ((x / d).toInt * d.toInt)
    have h8 := rg_e (x / d * d)
    rw [Int32.toInt_mul] at h8 ⊢
    have h9 : ((x / d).toInt * d.toInt).bmod 4294967296 = (x / d).toInt * d.toInt + 4294967296 * t := ht
    rw [h2, hd, Int.mul_comm (x.toInt / k) k] at h9
    have h10 : ((x / d).toInt * d.toInt).bmod (2 ^ 32) = ((x / d).toInt * d.toInt).bmod 4294967296 := rfl
    have h11 : 0 ≤ k * (x.toInt / k) := Int.mul_nonneg (by omega) (Int.ediv_nonneg hx (by omega))
    rw [h2, hd, Int.mul_comm (x.toInt / k) k] at h10 h8 ⊢
    omega
  obtain ⟨t, ht⟩ := su_e x (x / d * d)
  rw [h6] at ht
  omega
/-- a diamond that leaves one number on the stack -/
theorem jn_i {p : Program} {l : Launch} {e : Env} {R : Room} {s : State} {m : MethodId} {args : Array Value} {below : List Frame} {meth : Method} {c : Code} {H : Heap} {locs : List Loc} {cells slots : Nat} {Q : State → Prop} {ls : Array Slot} {J : Nat} {rest st0 : List Value} {pc0 : Nat} (T : Int32)
    (k1 : W p l e R s m args below meth c H locs cells slots Q (F0 m J ls (.int T :: rest))) (k2 : (∀ v : Int32, T = v → W p l e R s m args below meth c H locs cells slots Q (F0 m J ls (.int v :: rest))) → W p l e R s m args below meth c H locs cells slots Q (F0 m pc0 ls st0)) : W p l e R s m args below meth c H locs cells slots Q (F0 m pc0 ls st0) := k2 (fun v h => by rw [← h]; exact k1)
end
section
/-! laid by wip/whole/tools/model1.py -/
def m_X8_thrown (q : qM) : Int32 := (q.1 0 0)
set_option maxHeartbeats 4000000 in
set_option maxRecDepth 100000 in
theorem c_X8_thrown (l : Launch) (D : va_G) (b0 : Nat) (Pc : Nat → Nat → Option va_E) (cA : Nat → ClassId) (ad : Nat → Nat → Nat) (q : qM) : mc_i l yX8_thrown wsX8_thrown 0 0 D b0 Pc cA ad q [.ref (ad 20 0)] (m_X8_thrown q, q) := by
  refine mc_of (by decide) rfl (Nat.le_of_ble_eq_true rfl) ?_
  intro p e s m below meth c hx hb hml hr hlk hown hts hK hW ls hl
  have hown : s.vm.findClass RX8 = some m.cls := hown
  have hS : va_S (wA b0) s.heap s.heap [] := va_S.rf
  have hl : lv_has ls 1 [(0, .ref (ad 20 0))] := hl
  have hin : ∀ w ∈ wsX80, w ∈ wsX8_thrown := fun w h => List.mem_cons_of_mem _ (List.mem_append_right _ h)
  refine lv_aload_n hx hb dX8_thrown_0 rfl (lv_at hl 0 rfl) ?_
  refine mm_gets (v := (q.1 0 0)) hx hb hts hin hown hK hW 0 (by decide) (List.mem_of_getElem? (i := 1) rfl) rfl rfl (rfl) dX8_thrown_1 ?_
  exact mm_iret hx hb hr hlk hK hW hS (by rw [m_X8_thrown]) dX8_thrown_4

def m_X8_isIn (v : Int32) (lo : Int32) (hi : Int32) : Int32 := (if v < lo then 0 else (if hi < v then 0 else 1))
set_option maxHeartbeats 4000000 in
set_option maxRecDepth 100000 in
theorem c_X8_isIn (l : Launch) (D : va_G) (b0 : Nat) (Pc : Nat → Nat → Option va_E) (cA : Nat → ClassId) (ad : Nat → Nat → Nat) (q : qM) (v : Int32) (lo : Int32) (hi : Int32) : mc_i l yX8_isIn wsX8_isIn 0 0 D b0 Pc cA ad q [.int v, .int lo, .int hi] (m_X8_isIn v lo hi, q) := by
  refine mc_of (by decide) rfl (Nat.le_of_ble_eq_true rfl) ?_
  intro p e s m below meth c hx hb hml hr hlk hown hts hK hW ls hl
  have hown : s.vm.findClass RX8 = some m.cls := hown
  have hS : va_S (wA b0) s.heap s.heap [] := va_S.rf
  have hl : lv_has ls 3 [(0, .int v), (1, .int lo), (2, .int hi)] := hl
  refine lv_iload_n hx hb dX8_isIn_0 rfl (lv_at hl 0 rfl) ?_
  refine lv_iload_n hx hb dX8_isIn_1 rfl (lv_at hl 1 rfl) ?_
  refine lv_icmp_lt (tgt := 14) hx hb dX8_isIn_2 (by decide) (fun c_1 => ?_) (fun c_1 => ?_)
  · refine lv_iconst (v := 0) hx hb dX8_isIn_14 (by decide) ?_
    exact mm_zret hx hb hr hlk hK hW hS rfl (by rw [m_X8_isIn, if_pos c_1]) dX8_isIn_15
  · refine lv_iload_n hx hb dX8_isIn_5 rfl (lv_at hl 0 rfl) ?_
    refine lv_iload_n hx hb dX8_isIn_6 rfl (lv_at hl 2 rfl) ?_
    refine lv_icmp_gt (tgt := 14) hx hb dX8_isIn_7 (by decide) (fun c_2 => ?_) (fun c_2 => ?_)
    · refine lv_iconst (v := 0) hx hb dX8_isIn_14 (by decide) ?_
      exact mm_zret hx hb hr hlk hK hW hS rfl (by rw [m_X8_isIn, if_neg c_1, if_pos c_2]) dX8_isIn_15
    · refine lv_iconst (v := 1) hx hb dX8_isIn_10 (by decide) ?_
      refine lv_goto (tgt := 15) hx hb dX8_isIn_11 (by decide) ?_
      exact mm_zret hx hb hr hlk hK hW hS rfl (by rw [m_X8_isIn, if_neg c_1, if_neg c_2]) dX8_isIn_15

theorem is_t {v lo hi : Int32} (h : ¬ m_X8_isIn v lo hi = 0) : lo.toInt ≤ v.toInt ∧ v.toInt ≤ hi.toInt := by
  unfold m_X8_isIn at h
  by_cases h1 : v < lo
  · rw [if_pos h1] at h; exact absurd rfl h
  · rw [if_neg h1] at h
    by_cases h2 : hi < v
    · rw [if_pos h2] at h; exact absurd rfl h
    · exact ⟨cv_nlt h1, cv_nlt h2⟩
theorem is_1 {v lo hi : Int32} (h1 : lo.toInt ≤ v.toInt) (h2 : v.toInt ≤ hi.toInt) : m_X8_isIn v lo hi = 1 := by
  unfold m_X8_isIn
  rw [if_neg (fun q => by have := cv_lt q; omega), if_neg (fun q => by have := cv_lt q; omega)]
theorem is_0 {v lo hi : Int32} (h : v.toInt < lo.toInt ∨ hi.toInt < v.toInt) : m_X8_isIn v lo hi = 0 := by
  unfold m_X8_isIn
  by_cases h1 : v < lo
  · rw [if_pos h1]
  · rw [if_neg h1]
    by_cases h2 : hi < v
    · rw [if_pos h2]
    · have := cv_nlt h1; have := cv_nlt h2; omega

def m_X8_linked (bf : Int64) (nb : Int64) : Int64 := (((bf ^^^ nb) * 7046029254386353131) ^^^ ((Int64.toUInt64 ((bf ^^^ nb) * 7046029254386353131) >>> ((Int32.toInt64 29).toUInt64 &&& Int64.toUInt64 63)).toInt64))
set_option maxHeartbeats 4000000 in
set_option maxRecDepth 100000 in
theorem c_X8_linked (l : Launch) (D : va_G) (b0 : Nat) (Pc : Nat → Nat → Option va_E) (cA : Nat → ClassId) (ad : Nat → Nat → Nat) (q : qM) (bf : Int64) (nb : Int64) : mc_l l yX8_linked wsX8_linked 0 0 D b0 Pc cA ad q [.long bf, .long nb] (m_X8_linked bf nb, q) := by
  refine mc_of (by decide) rfl (Nat.le_of_ble_eq_true rfl) ?_
  intro p e s m below meth c hx hb hml hr hlk hown hts hK hW ls hl
  have hown : s.vm.findClass RX8 = some m.cls := hown
  have hS : va_S (wA b0) s.heap s.heap [] := va_S.rf
  have hl : lv_has ls 6 [(0, .long bf), (2, .long nb)] := hl
  refine lv_lload_n hx hb dX8_linked_0 rfl (lv_at hl 0 rfl) ?_
  refine lv_lload_n hx hb dX8_linked_1 rfl (lv_at hl 1 rfl) ?_
  refine lv_lxor hx hb dX8_linked_2 ?_
  refine lv_ldc2 (v := 7046029254386353131) hx hb hown (hts _ (List.mem_of_getElem? (i := 1) rfl)) dX8_linked_3 ?_
  refine lv_lmul hx hb dX8_linked_6 ?_
  refine lv_lstore (lv' := [(4, .long ((bf ^^^ nb) * 7046029254386353131)), (0, .long bf), (2, .long nb)]) hx hb dX8_linked_7 hl (by decide) rfl (fun ls hl => ?_)
  refine lv_lload hx hb dX8_linked_9 (lv_at hl 0 rfl) ?_
  refine lv_lload hx hb dX8_linked_11 (lv_at hl 0 rfl) ?_
  refine lv_bipush (v := 29) hx hb dX8_linked_13 (by decide) ?_
  refine lv_lushr (v := (Int64.toUInt64 ((bf ^^^ nb) * 7046029254386353131) >>> ((Int32.toInt64 29).toUInt64 &&& Int64.toUInt64 63)).toInt64) hx hb dX8_linked_15 rfl ?_
  refine lv_lxor hx hb dX8_linked_16 ?_
  exact mm_lret hx hb hr hlk hK hW hS (by rw [m_X8_linked]) dX8_linked_17

def m_X8_hasRoom (q : qM) (n : Int32) : Int32 := (if 400 < ((q.1 31 0) + n) then 0 else 1)
set_option maxHeartbeats 4000000 in
set_option maxRecDepth 100000 in
theorem c_X8_hasRoom (l : Launch) (D : va_G) (b0 : Nat) (Pc : Nat → Nat → Option va_E) (cA : Nat → ClassId) (ad : Nat → Nat → Nat) (q : qM) (n : Int32) : mc_i l yX8_hasRoom wsX8_hasRoom 0 0 D b0 Pc cA ad q [.ref (ad 20 0), .int n] (m_X8_hasRoom q n, q) := by
  refine mc_of (by decide) rfl (Nat.le_of_ble_eq_true rfl) ?_
  intro p e s m below meth c hx hb hml hr hlk hown hts hK hW ls hl
  have hown : s.vm.findClass RX8 = some m.cls := hown
  have hS : va_S (wA b0) s.heap s.heap [] := va_S.rf
  have hl : lv_has ls 2 [(0, .ref (ad 20 0)), (1, .int n)] := hl
  have hin : ∀ w ∈ wsX80, w ∈ wsX8_hasRoom := fun w h => List.mem_cons_of_mem _ (List.mem_append_right _ h)
  refine lv_aload_n hx hb dX8_hasRoom_0 rfl (lv_at hl 0 rfl) ?_
  refine mm_gets (v := (q.1 31 0)) hx hb hts hin hown hK hW 31 (by decide) (List.mem_of_getElem? (i := 1) rfl) rfl rfl (rfl) dX8_hasRoom_1 ?_
  refine lv_iload_n hx hb dX8_hasRoom_4 rfl (lv_at hl 1 rfl) ?_
  refine lv_iadd hx hb dX8_hasRoom_5 ?_
  refine lv_sipush (v := 400) hx hb dX8_hasRoom_6 (by decide) ?_
  refine lv_icmp_gt (tgt := 16) hx hb dX8_hasRoom_9 (by decide) (fun c_1 => ?_) (fun c_1 => ?_)
  · refine lv_iconst (v := 0) hx hb dX8_hasRoom_16 (by decide) ?_
    exact mm_zret hx hb hr hlk hK hW hS rfl (by rw [m_X8_hasRoom, if_pos c_1]) dX8_hasRoom_17
  · refine lv_iconst (v := 1) hx hb dX8_hasRoom_12 (by decide) ?_
    refine lv_goto (tgt := 17) hx hb dX8_hasRoom_13 (by decide) ?_
    exact mm_zret hx hb hr hlk hK hW hS rfl (by rw [m_X8_hasRoom, if_neg c_1]) dX8_hasRoom_17

def m_X8_inMonth (yr : Int32) (mo : Int32) : Int32 := (if mo = 2 then (if ((if (yr - yr / 4 * 4) = 0 then (if (yr - yr / 100 * 100) = 0 then (if (yr - yr / 400 * 400) = 0 then 1 else 0) else 1) else 0) : Int32) = 0 then 28 else 29) else (if mo = 4 then 30 else (if mo = 6 then 30 else (if mo = 9 then 30 else (if mo = 11 then 30 else 31)))))
set_option maxHeartbeats 4000000 in
set_option maxRecDepth 100000 in
theorem c_X8_inMonth (l : Launch) (D : va_G) (b0 : Nat) (Pc : Nat → Nat → Option va_E) (cA : Nat → ClassId) (ad : Nat → Nat → Nat) (q : qM) (yr : Int32) (mo : Int32) : mc_i l yX8_inMonth wsX8_inMonth 0 0 D b0 Pc cA ad q [.int yr, .int mo] (m_X8_inMonth yr mo, q) := by
  refine mc_of (by decide) rfl (Nat.le_of_ble_eq_true rfl) ?_
  intro p e s m below meth c hx hb hml hr hlk hown hts hK hW ls hl
  have hown : s.vm.findClass RX8 = some m.cls := hown
  have hS : va_S (wA b0) s.heap s.heap [] := va_S.rf
  have hl : lv_has ls 3 [(0, .int yr), (1, .int mo)] := hl
  refine jn_i (J := 26) (rest := []) ((if (yr - yr / 4 * 4) = 0 then (if (yr - yr / 100 * 100) = 0 then (if (yr - yr / 400 * 400) = 0 then 1 else 0) else 1) else 0) : Int32) ?_ (fun hj => ?_)
  · obtain ⟨j_8, ej_8⟩ : ∃ z : Int32, z = ((if (yr - yr / 4 * 4) = 0 then (if (yr - yr / 100 * 100) = 0 then (if (yr - yr / 400 * 400) = 0 then 1 else 0) else 1) else 0) : Int32) := ⟨_, rfl⟩
    rw [← ej_8]
    refine lv_istore_n (lv' := [(2, .int j_8), (0, .int yr), (1, .int mo)]) hx hb dX8_inMonth_26 rfl hl (by decide) rfl (fun ls hl => ?_)
    refine lv_iload_n hx hb dX8_inMonth_27 rfl (lv_at hl 2 rfl) ?_
    refine lv_iconst (v := 2) hx hb dX8_inMonth_28 (by decide) ?_
    refine lv_icmp_ne (tgt := 46) hx hb dX8_inMonth_29 (by decide) (fun c_9 => ?_) (fun c_9 => ?_)
    · refine lv_iload_n hx hb dX8_inMonth_46 rfl (lv_at hl 2 rfl) ?_
      refine lv_iconst (v := 4) hx hb dX8_inMonth_47 (by decide) ?_
      refine lv_icmp_eq (tgt := 69) hx hb dX8_inMonth_48 (by decide) (fun c_10 => ?_) (fun c_10 => ?_)
      · refine lv_bipush (v := 30) hx hb dX8_inMonth_69 (by decide) ?_
        refine lv_goto (tgt := 76) hx hb dX8_inMonth_71 (by decide) ?_
        exact mm_iret hx hb hr hlk hK hW hS (by rw [m_X8_inMonth, ← ej_8, if_neg c_9, if_pos c_10]) dX8_inMonth_76
      · refine lv_iload_n hx hb dX8_inMonth_51 rfl (lv_at hl 2 rfl) ?_
        refine lv_bipush (v := 6) hx hb dX8_inMonth_52 (by decide) ?_
        refine lv_icmp_eq (tgt := 69) hx hb dX8_inMonth_54 (by decide) (fun c_11 => ?_) (fun c_11 => ?_)
        · refine lv_bipush (v := 30) hx hb dX8_inMonth_69 (by decide) ?_
          refine lv_goto (tgt := 76) hx hb dX8_inMonth_71 (by decide) ?_
          exact mm_iret hx hb hr hlk hK hW hS (by rw [m_X8_inMonth, ← ej_8, if_neg c_9, if_neg c_10, if_pos c_11]) dX8_inMonth_76
        · refine lv_iload_n hx hb dX8_inMonth_57 rfl (lv_at hl 2 rfl) ?_
          refine lv_bipush (v := 9) hx hb dX8_inMonth_58 (by decide) ?_
          refine lv_icmp_eq (tgt := 69) hx hb dX8_inMonth_60 (by decide) (fun c_12 => ?_) (fun c_12 => ?_)
          · refine lv_bipush (v := 30) hx hb dX8_inMonth_69 (by decide) ?_
            refine lv_goto (tgt := 76) hx hb dX8_inMonth_71 (by decide) ?_
            exact mm_iret hx hb hr hlk hK hW hS (by rw [m_X8_inMonth, ← ej_8, if_neg c_9, if_neg c_10, if_neg c_11, if_pos c_12]) dX8_inMonth_76
          · refine lv_iload_n hx hb dX8_inMonth_63 rfl (lv_at hl 2 rfl) ?_
            refine lv_bipush (v := 11) hx hb dX8_inMonth_64 (by decide) ?_
            refine lv_icmp_ne (tgt := 74) hx hb dX8_inMonth_66 (by decide) (fun c_13 => ?_) (fun c_13 => ?_)
            · refine lv_bipush (v := 31) hx hb dX8_inMonth_74 (by decide) ?_
              exact mm_iret hx hb hr hlk hK hW hS (by rw [m_X8_inMonth, ← ej_8, if_neg c_9, if_neg c_10, if_neg c_11, if_neg c_12, if_neg c_13]) dX8_inMonth_76
            · refine lv_bipush (v := 30) hx hb dX8_inMonth_69 (by decide) ?_
              refine lv_goto (tgt := 76) hx hb dX8_inMonth_71 (by decide) ?_
              exact mm_iret hx hb hr hlk hK hW hS (by rw [m_X8_inMonth, ← ej_8, if_neg c_9, if_neg c_10, if_neg c_11, if_neg c_12, if_pos c_13]) dX8_inMonth_76
    · refine lv_iload_n hx hb dX8_inMonth_32 rfl (lv_at hl 0 rfl) ?_
      refine lv_if_eq (tgt := 41) hx hb dX8_inMonth_33 (by decide) (fun c_14 => ?_) (fun c_14 => ?_)
      · refine lv_bipush (v := 28) hx hb dX8_inMonth_41 (by decide) ?_
        refine lv_goto (tgt := 76) hx hb dX8_inMonth_43 (by decide) ?_
        exact mm_iret hx hb hr hlk hK hW hS (by rw [m_X8_inMonth, ← ej_8, if_pos c_9, if_pos c_14]) dX8_inMonth_76
      · refine lv_bipush (v := 29) hx hb dX8_inMonth_36 (by decide) ?_
        refine lv_goto (tgt := 76) hx hb dX8_inMonth_38 (by decide) ?_
        exact mm_iret hx hb hr hlk hK hW hS (by rw [m_X8_inMonth, ← ej_8, if_pos c_9, if_neg c_14]) dX8_inMonth_76
  · refine lv_iload_n hx hb dX8_inMonth_0 rfl (lv_at hl 0 rfl) ?_
    refine lv_iconst (v := 4) hx hb dX8_inMonth_1 (by decide) ?_
    refine lv_irem hx hb dX8_inMonth_2 (by decide) ?_
    refine lv_if_ne (tgt := 25) hx hb dX8_inMonth_3 (by decide) (fun c_1 => ?_) (fun c_1 => ?_)
    · refine lv_iconst (v := 0) hx hb dX8_inMonth_25 (by decide) ?_
      have e_2 : ((if (yr - yr / 4 * 4) = 0 then (if (yr - yr / 100 * 100) = 0 then (if (yr - yr / 400 * 400) = 0 then 1 else 0) else 1) else 0) : Int32) = 0 := by rw [if_neg c_1]
      exact hj _ e_2
    · refine lv_iload_n hx hb dX8_inMonth_6 rfl (lv_at hl 0 rfl) ?_
      refine lv_bipush (v := 100) hx hb dX8_inMonth_7 (by decide) ?_
      refine lv_irem hx hb dX8_inMonth_9 (by decide) ?_
      refine lv_if_ne (tgt := 21) hx hb dX8_inMonth_10 (by decide) (fun c_3 => ?_) (fun c_3 => ?_)
      · refine lv_iconst (v := 1) hx hb dX8_inMonth_21 (by decide) ?_
        refine lv_goto (tgt := 26) hx hb dX8_inMonth_22 (by decide) ?_
        have e_4 : ((if (yr - yr / 4 * 4) = 0 then (if (yr - yr / 100 * 100) = 0 then (if (yr - yr / 400 * 400) = 0 then 1 else 0) else 1) else 0) : Int32) = 1 := by rw [if_pos c_1, if_neg c_3]
        exact hj _ e_4
      · refine lv_iload_n hx hb dX8_inMonth_13 rfl (lv_at hl 0 rfl) ?_
        refine lv_sipush (v := 400) hx hb dX8_inMonth_14 (by decide) ?_
        refine lv_irem hx hb dX8_inMonth_17 (by decide) ?_
        refine lv_if_ne (tgt := 25) hx hb dX8_inMonth_18 (by decide) (fun c_5 => ?_) (fun c_5 => ?_)
        · refine lv_iconst (v := 0) hx hb dX8_inMonth_25 (by decide) ?_
          have e_6 : ((if (yr - yr / 4 * 4) = 0 then (if (yr - yr / 100 * 100) = 0 then (if (yr - yr / 400 * 400) = 0 then 1 else 0) else 1) else 0) : Int32) = 0 := by rw [if_pos c_1, if_pos c_3, if_neg c_5]
          exact hj _ e_6
        · refine lv_iconst (v := 1) hx hb dX8_inMonth_21 (by decide) ?_
          refine lv_goto (tgt := 26) hx hb dX8_inMonth_22 (by decide) ?_
          have e_7 : ((if (yr - yr / 4 * 4) = 0 then (if (yr - yr / 100 * 100) = 0 then (if (yr - yr / 400 * 400) = 0 then 1 else 0) else 1) else 0) : Int32) = 1 := by rw [if_pos c_1, if_pos c_3, if_pos c_5]
          exact hj _ e_7

theorem im_rg (yr mo : Int32) : 28 ≤ (m_X8_inMonth yr mo).toInt ∧ (m_X8_inMonth yr mo).toInt ≤ 31 := by
  unfold m_X8_inMonth
  repeat' split
  all_goals decide

def m_X8_isTerm (yr : Int32) (mo : Int32) : Int32 := (if (m_X8_isIn yr 0 100) = 0 then 0 else (if (m_X8_isIn mo 0 11) = 0 then 0 else 1))
set_option maxHeartbeats 4000000 in
set_option maxRecDepth 100000 in
theorem c_X8_isTerm (l : Launch) (D : va_G) (b0 : Nat) (Pc : Nat → Nat → Option va_E) (cA : Nat → ClassId) (ad : Nat → Nat → Nat) (q : qM) (yr : Int32) (mo : Int32) : mc_i l yX8_isTerm wsX8_isTerm 1 22 D b0 Pc cA ad q [.int yr, .int mo] (m_X8_isTerm yr mo, q) := by
  refine mc_of (by decide) rfl (Nat.le_of_ble_eq_true rfl) ?_
  intro p e s m below meth c hx hb hml hr hlk hown hts hK hW ls hl
  have hown : s.vm.findClass RX8 = some m.cls := hown
  have hS : va_S (wA b0) s.heap s.heap [] := va_S.rf
  have hl : lv_has ls 2 [(0, .int yr), (1, .int mo)] := hl
  refine lv_iload_n hx hb dX8_isTerm_0 rfl (lv_at hl 0 rfl) ?_
  refine lv_iconst (v := 0) hx hb dX8_isTerm_1 (by decide) ?_
  refine lv_bipush (v := 100) hx hb dX8_isTerm_2 (by decide) ?_
  refine mm_callSi (n := 3) (As := [.int yr, .int 0, .int 100]) (rest := []) (r := (m_X8_isIn yr 0 100)) (q2 := q) ⟨hx, hb, hml, hown, hts⟩ (c_X8_isIn l D b0 Pc cA ad q yr 0 100) gX8_isTerm_X8_isIn rfl (by decide +kernel) rfl ⟨Nat.le_of_ble_eq_true rfl, Nat.le_of_ble_eq_true rfl⟩ ⟨Nat.le_of_ble_eq_true rfl, Nat.le_of_ble_eq_true rfl⟩ hK hW hS hl.1 rfl (Nat.le_of_ble_eq_true rfl) dX8_isTerm_4 (fun H locs hW hS => ?_)
  refine lv_if_eq (tgt := 24) hx hb dX8_isTerm_7 (by decide) (fun c_1 => ?_) (fun c_1 => ?_)
  · refine lv_iconst (v := 0) hx hb dX8_isTerm_24 (by decide) ?_
    exact mm_zret hx hb hr hlk hK hW hS rfl (by rw [m_X8_isTerm, if_pos c_1]) dX8_isTerm_25
  · refine lv_iload_n hx hb dX8_isTerm_10 rfl (lv_at hl 1 rfl) ?_
    refine lv_iconst (v := 0) hx hb dX8_isTerm_11 (by decide) ?_
    refine lv_bipush (v := 11) hx hb dX8_isTerm_12 (by decide) ?_
    refine mm_callSi (n := 3) (As := [.int mo, .int 0, .int 11]) (rest := []) (r := (m_X8_isIn mo 0 11)) (q2 := q) ⟨hx, hb, hml, hown, hts⟩ (c_X8_isIn l D b0 Pc cA ad q mo 0 11) gX8_isTerm_X8_isIn rfl (by decide +kernel) rfl ⟨Nat.le_of_ble_eq_true rfl, Nat.le_of_ble_eq_true rfl⟩ ⟨Nat.le_of_ble_eq_true rfl, Nat.le_of_ble_eq_true rfl⟩ hK hW hS hl.1 rfl (Nat.le_of_ble_eq_true rfl) dX8_isTerm_14 (fun H locs hW hS => ?_)
    refine lv_if_eq (tgt := 24) hx hb dX8_isTerm_17 (by decide) (fun c_2 => ?_) (fun c_2 => ?_)
    · refine lv_iconst (v := 0) hx hb dX8_isTerm_24 (by decide) ?_
      exact mm_zret hx hb hr hlk hK hW hS rfl (by rw [m_X8_isTerm, if_neg c_1, if_pos c_2]) dX8_isTerm_25
    · refine lv_iconst (v := 1) hx hb dX8_isTerm_20 (by decide) ?_
      refine lv_goto (tgt := 25) hx hb dX8_isTerm_21 (by decide) ?_
      exact mm_zret hx hb hr hlk hK hW hS rfl (by rw [m_X8_isTerm, if_neg c_1, if_neg c_2]) dX8_isTerm_25

def m_X8_isDay (q : qM) (day : Int32) : Int32 := (if (m_X8_isIn day 0 120000) = 0 then 0 else (if day < (q.1 3 0) then 0 else 1))
set_option maxHeartbeats 4000000 in
set_option maxRecDepth 100000 in
theorem c_X8_isDay (l : Launch) (D : va_G) (b0 : Nat) (Pc : Nat → Nat → Option va_E) (cA : Nat → ClassId) (ad : Nat → Nat → Nat) (q : qM) (day : Int32) : mc_i l yX8_isDay wsX8_isDay 1 22 D b0 Pc cA ad q [.ref (ad 20 0), .int day] (m_X8_isDay q day, q) := by
  refine mc_of (by decide) rfl (Nat.le_of_ble_eq_true rfl) ?_
  intro p e s m below meth c hx hb hml hr hlk hown hts hK hW ls hl
  have hown : s.vm.findClass RX8 = some m.cls := hown
  have hS : va_S (wA b0) s.heap s.heap [] := va_S.rf
  have hl : lv_has ls 2 [(0, .ref (ad 20 0)), (1, .int day)] := hl
  have hin : ∀ w ∈ wsX80, w ∈ wsX8_isDay := fun w h => List.mem_cons_of_mem _ (List.mem_append_right _ h)
  refine lv_iload_n hx hb dX8_isDay_0 rfl (lv_at hl 1 rfl) ?_
  refine lv_iconst (v := 0) hx hb dX8_isDay_1 (by decide) ?_
  refine lv_ldc (v := 120000) hx hb hown (hts _ (List.mem_of_getElem? (i := 1) rfl)) dX8_isDay_2 ?_
  refine mm_callSi (n := 3) (As := [.int day, .int 0, .int 120000]) (rest := []) (r := (m_X8_isIn day 0 120000)) (q2 := q) ⟨hx, hb, hml, hown, hts⟩ (c_X8_isIn l D b0 Pc cA ad q day 0 120000) gX8_isDay_X8_isIn rfl (by decide +kernel) rfl ⟨Nat.le_of_ble_eq_true rfl, Nat.le_of_ble_eq_true rfl⟩ ⟨Nat.le_of_ble_eq_true rfl, Nat.le_of_ble_eq_true rfl⟩ hK hW hS hl.1 rfl (Nat.le_of_ble_eq_true rfl) dX8_isDay_4 (fun H locs hW hS => ?_)
  refine lv_if_eq (tgt := 22) hx hb dX8_isDay_7 (by decide) (fun c_1 => ?_) (fun c_1 => ?_)
  · refine lv_iconst (v := 0) hx hb dX8_isDay_22 (by decide) ?_
    exact mm_zret hx hb hr hlk hK hW hS rfl (by rw [m_X8_isDay, if_pos c_1]) dX8_isDay_23
  · refine lv_iload_n hx hb dX8_isDay_10 rfl (lv_at hl 1 rfl) ?_
    refine lv_aload_n hx hb dX8_isDay_11 rfl (lv_at hl 0 rfl) ?_
    refine mm_gets (v := (q.1 3 0)) hx hb hts hin hown hK hW 3 (by decide) (List.mem_of_getElem? (i := 2) rfl) rfl rfl (rfl) dX8_isDay_12 ?_
    refine lv_icmp_lt (tgt := 22) hx hb dX8_isDay_15 (by decide) (fun c_2 => ?_) (fun c_2 => ?_)
    · refine lv_iconst (v := 0) hx hb dX8_isDay_22 (by decide) ?_
      exact mm_zret hx hb hr hlk hK hW hS rfl (by rw [m_X8_isDay, if_neg c_1, if_pos c_2]) dX8_isDay_23
    · refine lv_iconst (v := 1) hx hb dX8_isDay_18 (by decide) ?_
      refine lv_goto (tgt := 23) hx hb dX8_isDay_19 (by decide) ?_
      exact mm_zret hx hb hr hlk hK hW hS rfl (by rw [m_X8_isDay, if_neg c_1, if_neg c_2]) dX8_isDay_23

def m_X8_noFolder (q : qM) (f : Int32) : Int32 := (if (m_X8_isIn f 0 15) = 0 then 1 else (if (q.1 9 (Int32.toNatClampNeg f)) = (-1) then 1 else 0))
set_option maxHeartbeats 4000000 in
set_option maxRecDepth 100000 in
theorem c_X8_noFolder (l : Launch) (D : va_G) (b0 : Nat) (Pc : Nat → Nat → Option va_E) (cA : Nat → ClassId) (ad : Nat → Nat → Nat) (q : qM) (f : Int32) : mc_i l yX8_noFolder wsX8_noFolder 1 22 D b0 Pc cA ad q [.ref (ad 20 0), .int f] (m_X8_noFolder q f, q) := by
  refine mc_of (by decide) rfl (Nat.le_of_ble_eq_true rfl) ?_
  intro p e s m below meth c hx hb hml hr hlk hown hts hK hW ls hl
  have hown : s.vm.findClass RX8 = some m.cls := hown
  have hS : va_S (wA b0) s.heap s.heap [] := va_S.rf
  have hl : lv_has ls 2 [(0, .ref (ad 20 0)), (1, .int f)] := hl
  have hin : ∀ w ∈ wsX80, w ∈ wsX8_noFolder := fun w h => List.mem_cons_of_mem _ (List.mem_append_right _ h)
  refine lv_iload_n hx hb dX8_noFolder_0 rfl (lv_at hl 1 rfl) ?_
  refine lv_iconst (v := 0) hx hb dX8_noFolder_1 (by decide) ?_
  refine lv_bipush (v := 15) hx hb dX8_noFolder_2 (by decide) ?_
  refine mm_callSi (n := 3) (As := [.int f, .int 0, .int 15]) (rest := []) (r := (m_X8_isIn f 0 15)) (q2 := q) ⟨hx, hb, hml, hown, hts⟩ (c_X8_isIn l D b0 Pc cA ad q f 0 15) gX8_noFolder_X8_isIn rfl (by decide +kernel) rfl ⟨Nat.le_of_ble_eq_true rfl, Nat.le_of_ble_eq_true rfl⟩ ⟨Nat.le_of_ble_eq_true rfl, Nat.le_of_ble_eq_true rfl⟩ hK hW hS hl.1 rfl (Nat.le_of_ble_eq_true rfl) dX8_noFolder_4 (fun H locs hW hS => ?_)
  refine lv_if_eq (tgt := 20) hx hb dX8_noFolder_7 (by decide) (fun c_1 => ?_) (fun c_1 => ?_)
  · refine lv_iconst (v := 1) hx hb dX8_noFolder_20 (by decide) ?_
    refine lv_goto (tgt := 25) hx hb dX8_noFolder_21 (by decide) ?_
    exact mm_zret hx hb hr hlk hK hW hS rfl (by rw [m_X8_noFolder, if_pos c_1]) dX8_noFolder_25
  · refine lv_aload_n hx hb dX8_noFolder_10 rfl (lv_at hl 0 rfl) ?_
    refine mm_get (v := .ref (ad 21 9)) hx hb hts hin hown hK hW 9 (by decide) (List.mem_of_getElem? (i := 1) rfl) rfl rfl dX8_noFolder_11 ?_
    refine lv_iload_n hx hb dX8_noFolder_14 rfl (lv_at hl 1 rfl) ?_
    have b_2 : vp_in f 16 := by
      have u_1 := rg_e f
      have u_2 := rg_e (m_X8_isIn f 0 15)
      have k_3 : (0 : Int32).toInt = 0 := rfl
      have v_4 := cv_ne c_1
      have k_5 : (15 : Int32).toInt = 15 := rfl
      have v_6 := is_t c_1
      exact vp_in_iff.mpr (by omega)
    refine mm_iald (v := (q.1 9 (Int32.toNatClampNeg f))) hx hb hK hW 9 16 rfl b_2 ((rfl)) dX8_noFolder_15 ?_
    refine lv_iconst (v := (-1)) hx hb dX8_noFolder_16 (by decide) ?_
    refine lv_icmp_ne (tgt := 24) hx hb dX8_noFolder_17 (by decide) (fun c_3 => ?_) (fun c_3 => ?_)
    · refine lv_iconst (v := 0) hx hb dX8_noFolder_24 (by decide) ?_
      exact mm_zret hx hb hr hlk hK hW hS rfl (by rw [m_X8_noFolder, if_neg c_1, if_neg c_3]) dX8_noFolder_25
    · refine lv_iconst (v := 1) hx hb dX8_noFolder_20 (by decide) ?_
      refine lv_goto (tgt := 25) hx hb dX8_noFolder_21 (by decide) ?_
      exact mm_zret hx hb hr hlk hK hW hS rfl (by rw [m_X8_noFolder, if_neg c_1, if_pos c_3]) dX8_noFolder_25

def m_X8_noRecord (q : qM) (r : Int32) : Int32 := (if (m_X8_isIn r 0 ((q.1 12 0) - 1)) = 0 then 1 else 0)
set_option maxHeartbeats 4000000 in
set_option maxRecDepth 100000 in
theorem c_X8_noRecord (l : Launch) (D : va_G) (b0 : Nat) (Pc : Nat → Nat → Option va_E) (cA : Nat → ClassId) (ad : Nat → Nat → Nat) (q : qM) (r : Int32) : mc_i l yX8_noRecord wsX8_noRecord 1 22 D b0 Pc cA ad q [.ref (ad 20 0), .int r] (m_X8_noRecord q r, q) := by
  refine mc_of (by decide) rfl (Nat.le_of_ble_eq_true rfl) ?_
  intro p e s m below meth c hx hb hml hr hlk hown hts hK hW ls hl
  have hown : s.vm.findClass RX8 = some m.cls := hown
  have hS : va_S (wA b0) s.heap s.heap [] := va_S.rf
  have hl : lv_has ls 2 [(0, .ref (ad 20 0)), (1, .int r)] := hl
  have hin : ∀ w ∈ wsX80, w ∈ wsX8_noRecord := fun w h => List.mem_cons_of_mem _ (List.mem_append_right _ h)
  refine lv_iload_n hx hb dX8_noRecord_0 rfl (lv_at hl 1 rfl) ?_
  refine lv_iconst (v := 0) hx hb dX8_noRecord_1 (by decide) ?_
  refine lv_aload_n hx hb dX8_noRecord_2 rfl (lv_at hl 0 rfl) ?_
  refine mm_gets (v := (q.1 12 0)) hx hb hts hin hown hK hW 12 (by decide) (List.mem_of_getElem? (i := 1) rfl) rfl rfl (rfl) dX8_noRecord_3 ?_
  refine lv_iconst (v := 1) hx hb dX8_noRecord_6 (by decide) ?_
  refine lv_isub hx hb dX8_noRecord_7 ?_
  refine mm_callSi (n := 3) (As := [.int r, .int 0, .int ((q.1 12 0) - 1)]) (rest := []) (r := (m_X8_isIn r 0 ((q.1 12 0) - 1))) (q2 := q) ⟨hx, hb, hml, hown, hts⟩ (c_X8_isIn l D b0 Pc cA ad q r 0 ((q.1 12 0) - 1)) gX8_noRecord_X8_isIn rfl (by decide +kernel) rfl ⟨Nat.le_of_ble_eq_true rfl, Nat.le_of_ble_eq_true rfl⟩ ⟨Nat.le_of_ble_eq_true rfl, Nat.le_of_ble_eq_true rfl⟩ hK hW hS hl.1 rfl (Nat.le_of_ble_eq_true rfl) dX8_noRecord_8 (fun H locs hW hS => ?_)
  refine lv_if_ne (tgt := 18) hx hb dX8_noRecord_11 (by decide) (fun c_1 => ?_) (fun c_1 => ?_)
  · refine lv_iconst (v := 0) hx hb dX8_noRecord_18 (by decide) ?_
    exact mm_zret hx hb hr hlk hK hW hS rfl (by rw [m_X8_noRecord, if_neg c_1]) dX8_noRecord_19
  · refine lv_iconst (v := 1) hx hb dX8_noRecord_14 (by decide) ?_
    refine lv_goto (tgt := 19) hx hb dX8_noRecord_15 (by decide) ?_
    exact mm_zret hx hb hr hlk hK hW hS rfl (by rw [m_X8_noRecord, if_pos c_1]) dX8_noRecord_19

def m_X8_noOfficer (k : Int32) : Int32 := (if (m_X8_isIn k 0 7) = 0 then 1 else 0)
set_option maxHeartbeats 4000000 in
set_option maxRecDepth 100000 in
theorem c_X8_noOfficer (l : Launch) (D : va_G) (b0 : Nat) (Pc : Nat → Nat → Option va_E) (cA : Nat → ClassId) (ad : Nat → Nat → Nat) (q : qM) (k : Int32) : mc_i l yX8_noOfficer wsX8_noOfficer 1 22 D b0 Pc cA ad q [.ref (ad 20 0), .int k] (m_X8_noOfficer k, q) := by
  refine mc_of (by decide) rfl (Nat.le_of_ble_eq_true rfl) ?_
  intro p e s m below meth c hx hb hml hr hlk hown hts hK hW ls hl
  have hown : s.vm.findClass RX8 = some m.cls := hown
  have hS : va_S (wA b0) s.heap s.heap [] := va_S.rf
  have hl : lv_has ls 2 [(0, .ref (ad 20 0)), (1, .int k)] := hl
  refine lv_iload_n hx hb dX8_noOfficer_0 rfl (lv_at hl 1 rfl) ?_
  refine lv_iconst (v := 0) hx hb dX8_noOfficer_1 (by decide) ?_
  refine lv_bipush (v := 7) hx hb dX8_noOfficer_2 (by decide) ?_
  refine mm_callSi (n := 3) (As := [.int k, .int 0, .int 7]) (rest := []) (r := (m_X8_isIn k 0 7)) (q2 := q) ⟨hx, hb, hml, hown, hts⟩ (c_X8_isIn l D b0 Pc cA ad q k 0 7) gX8_noOfficer_X8_isIn rfl (by decide +kernel) rfl ⟨Nat.le_of_ble_eq_true rfl, Nat.le_of_ble_eq_true rfl⟩ ⟨Nat.le_of_ble_eq_true rfl, Nat.le_of_ble_eq_true rfl⟩ hK hW hS hl.1 rfl (Nat.le_of_ble_eq_true rfl) dX8_noOfficer_4 (fun H locs hW hS => ?_)
  refine lv_if_ne (tgt := 14) hx hb dX8_noOfficer_7 (by decide) (fun c_1 => ?_) (fun c_1 => ?_)
  · refine lv_iconst (v := 0) hx hb dX8_noOfficer_14 (by decide) ?_
    exact mm_zret hx hb hr hlk hK hW hS rfl (by rw [m_X8_noOfficer, if_neg c_1]) dX8_noOfficer_15
  · refine lv_iconst (v := 1) hx hb dX8_noOfficer_10 (by decide) ?_
    refine lv_goto (tgt := 15) hx hb dX8_noOfficer_11 (by decide) ?_
    exact mm_zret hx hb hr hlk hK hW hS rfl (by rw [m_X8_noOfficer, if_pos c_1]) dX8_noOfficer_15

def m_X8_noList (q : qM) (k : Int32) : Int32 := (if (m_X8_isIn k 0 ((q.1 25 0) - 1)) = 0 then 1 else 0)
set_option maxHeartbeats 4000000 in
set_option maxRecDepth 100000 in
theorem c_X8_noList (l : Launch) (D : va_G) (b0 : Nat) (Pc : Nat → Nat → Option va_E) (cA : Nat → ClassId) (ad : Nat → Nat → Nat) (q : qM) (k : Int32) : mc_i l yX8_noList wsX8_noList 1 22 D b0 Pc cA ad q [.ref (ad 20 0), .int k] (m_X8_noList q k, q) := by
  refine mc_of (by decide) rfl (Nat.le_of_ble_eq_true rfl) ?_
  intro p e s m below meth c hx hb hml hr hlk hown hts hK hW ls hl
  have hown : s.vm.findClass RX8 = some m.cls := hown
  have hS : va_S (wA b0) s.heap s.heap [] := va_S.rf
  have hl : lv_has ls 2 [(0, .ref (ad 20 0)), (1, .int k)] := hl
  have hin : ∀ w ∈ wsX80, w ∈ wsX8_noList := fun w h => List.mem_cons_of_mem _ (List.mem_append_right _ h)
  refine lv_iload_n hx hb dX8_noList_0 rfl (lv_at hl 1 rfl) ?_
  refine lv_iconst (v := 0) hx hb dX8_noList_1 (by decide) ?_
  refine lv_aload_n hx hb dX8_noList_2 rfl (lv_at hl 0 rfl) ?_
  refine mm_gets (v := (q.1 25 0)) hx hb hts hin hown hK hW 25 (by decide) (List.mem_of_getElem? (i := 1) rfl) rfl rfl (rfl) dX8_noList_3 ?_
  refine lv_iconst (v := 1) hx hb dX8_noList_6 (by decide) ?_
  refine lv_isub hx hb dX8_noList_7 ?_
  refine mm_callSi (n := 3) (As := [.int k, .int 0, .int ((q.1 25 0) - 1)]) (rest := []) (r := (m_X8_isIn k 0 ((q.1 25 0) - 1))) (q2 := q) ⟨hx, hb, hml, hown, hts⟩ (c_X8_isIn l D b0 Pc cA ad q k 0 ((q.1 25 0) - 1)) gX8_noList_X8_isIn rfl (by decide +kernel) rfl ⟨Nat.le_of_ble_eq_true rfl, Nat.le_of_ble_eq_true rfl⟩ ⟨Nat.le_of_ble_eq_true rfl, Nat.le_of_ble_eq_true rfl⟩ hK hW hS hl.1 rfl (Nat.le_of_ble_eq_true rfl) dX8_noList_8 (fun H locs hW hS => ?_)
  refine lv_if_ne (tgt := 18) hx hb dX8_noList_11 (by decide) (fun c_1 => ?_) (fun c_1 => ?_)
  · refine lv_iconst (v := 0) hx hb dX8_noList_18 (by decide) ?_
    exact mm_zret hx hb hr hlk hK hW hS rfl (by rw [m_X8_noList, if_neg c_1]) dX8_noList_19
  · refine lv_iconst (v := 1) hx hb dX8_noList_14 (by decide) ?_
    refine lv_goto (tgt := 19) hx hb dX8_noList_15 (by decide) ?_
    exact mm_zret hx hb hr hlk hK hW hS rfl (by rw [m_X8_noList, if_pos c_1]) dX8_noList_19

def m_X8_noAct (q : qM) (i : Int32) : Int32 := (if (m_X8_isIn i 0 ((q.1 31 0) - 1)) = 0 then 1 else 0)
set_option maxHeartbeats 4000000 in
set_option maxRecDepth 100000 in
theorem c_X8_noAct (l : Launch) (D : va_G) (b0 : Nat) (Pc : Nat → Nat → Option va_E) (cA : Nat → ClassId) (ad : Nat → Nat → Nat) (q : qM) (i : Int32) : mc_i l yX8_noAct wsX8_noAct 1 22 D b0 Pc cA ad q [.ref (ad 20 0), .int i] (m_X8_noAct q i, q) := by
  refine mc_of (by decide) rfl (Nat.le_of_ble_eq_true rfl) ?_
  intro p e s m below meth c hx hb hml hr hlk hown hts hK hW ls hl
  have hown : s.vm.findClass RX8 = some m.cls := hown
  have hS : va_S (wA b0) s.heap s.heap [] := va_S.rf
  have hl : lv_has ls 2 [(0, .ref (ad 20 0)), (1, .int i)] := hl
  have hin : ∀ w ∈ wsX80, w ∈ wsX8_noAct := fun w h => List.mem_cons_of_mem _ (List.mem_append_right _ h)
  refine lv_iload_n hx hb dX8_noAct_0 rfl (lv_at hl 1 rfl) ?_
  refine lv_iconst (v := 0) hx hb dX8_noAct_1 (by decide) ?_
  refine lv_aload_n hx hb dX8_noAct_2 rfl (lv_at hl 0 rfl) ?_
  refine mm_gets (v := (q.1 31 0)) hx hb hts hin hown hK hW 31 (by decide) (List.mem_of_getElem? (i := 1) rfl) rfl rfl (rfl) dX8_noAct_3 ?_
  refine lv_iconst (v := 1) hx hb dX8_noAct_6 (by decide) ?_
  refine lv_isub hx hb dX8_noAct_7 ?_
  refine mm_callSi (n := 3) (As := [.int i, .int 0, .int ((q.1 31 0) - 1)]) (rest := []) (r := (m_X8_isIn i 0 ((q.1 31 0) - 1))) (q2 := q) ⟨hx, hb, hml, hown, hts⟩ (c_X8_isIn l D b0 Pc cA ad q i 0 ((q.1 31 0) - 1)) gX8_noAct_X8_isIn rfl (by decide +kernel) rfl ⟨Nat.le_of_ble_eq_true rfl, Nat.le_of_ble_eq_true rfl⟩ ⟨Nat.le_of_ble_eq_true rfl, Nat.le_of_ble_eq_true rfl⟩ hK hW hS hl.1 rfl (Nat.le_of_ble_eq_true rfl) dX8_noAct_8 (fun H locs hW hS => ?_)
  refine lv_if_ne (tgt := 18) hx hb dX8_noAct_11 (by decide) (fun c_1 => ?_) (fun c_1 => ?_)
  · refine lv_iconst (v := 0) hx hb dX8_noAct_18 (by decide) ?_
    exact mm_zret hx hb hr hlk hK hW hS rfl (by rw [m_X8_noAct, if_neg c_1]) dX8_noAct_19
  · refine lv_iconst (v := 1) hx hb dX8_noAct_14 (by decide) ?_
    refine lv_goto (tgt := 19) hx hb dX8_noAct_15 (by decide) ?_
    exact mm_zret hx hb hr hlk hK hW hS rfl (by rw [m_X8_noAct, if_pos c_1]) dX8_noAct_19

def m_X8_monthOf_lp : Nat → Int32 → Int32 → Int32
  | 0, _, _ => 0
  | n + 1, left, k => (if left < (m_X8_inMonth (1900 + (k / 12)) ((k - k / 12 * 12) + 1)) then k else (m_X8_monthOf_lp n (left - (m_X8_inMonth (1900 + (k / 12)) ((k - k / 12 * 12) + 1))) (k + 1)))
def m_X8_monthOf (day : Int32) : Int32 := (m_X8_monthOf_lp (Int.toNat day.toInt + 1) day 0)
set_option maxHeartbeats 4000000 in
set_option maxRecDepth 100000 in
theorem c_X8_monthOf (l : Launch) (D : va_G) (b0 : Nat) (Pc : Nat → Nat → Option va_E) (cA : Nat → ClassId) (ad : Nat → Nat → Nat) (q : qM) (day : Int32) (hd : 0 ≤ (day : Int32).toInt) : mc_i l yX8_monthOf wsX8_monthOf 1 22 D b0 Pc cA ad q [.int day] (m_X8_monthOf day, q) := by
  refine mc_of (by decide) rfl (Nat.le_of_ble_eq_true rfl) ?_
  intro p e s m below meth c hx hb hml hr hlk hown hts hK hW ls hl
  have hown : s.vm.findClass RX8 = some m.cls := hown
  have hS : va_S (wA b0) s.heap s.heap [] := va_S.rf
  have hl : lv_has ls 3 [(0, .int day)] := hl
  refine lv_iload_n hx hb dX8_monthOf_0 rfl (lv_at hl 0 rfl) ?_
  refine lv_istore_n (lv' := [(1, .int day), (0, .int day)]) hx hb dX8_monthOf_1 rfl hl (by decide) rfl (fun ls hl => ?_)
  refine lv_iconst (v := 0) hx hb dX8_monthOf_2 (by decide) ?_
  refine lv_istore_n (lv' := [(2, .int 0), (1, .int day), (0, .int day)]) hx hb dX8_monthOf_3 rfl hl (by decide) rfl (fun ls hl => ?_)
  have lp_5 : ∀ (Q : State → Prop) (n : Nat) (left : Int32) (k : Int32), 0 ≤ left.toInt → left.toInt < (n : Int) → (∀ o_1 : Int32, o_1 = (m_X8_monthOf_lp n left k) → ∀ (H : Heap) (locs : List Loc), wd D (wA b0) (PW Pc cA ad q) ad H → va_S (wA b0) s.heap H locs → ∀ ls : Array Slot, lv_has ls 3 [(2, .int o_1), (0, .int day)] → W p l e { frames := 1, cells := 0, slots := 0, locals := 22 } s m [.int day].toArray below meth c H locs 0 0 Q (F0 m 51 ls [])) → ∀ (H : Heap) (locs : List Loc), wd D (wA b0) (PW Pc cA ad q) ad H → va_S (wA b0) s.heap H locs → ∀ ls : Array Slot, lv_has ls 3 [(1, .int left), (2, .int k), (0, .int day)] → W p l e { frames := 1, cells := 0, slots := 0, locals := 22 } s m [.int day].toArray below meth c H locs 0 0 Q (F0 m 4 ls []) := by
    intro Q n
    induction n with
    | zero =>
      intro left k i1 hm
      have hz : 0 ≤ left.toInt := by
        have w_1 := hd
        have w_2 := i1
        omega
      exact absurd hm (by omega)
    | succ n ih =>
      intro left k i1 hm kk H locs hW hS ls hl
      refine lv_iload_n hx hb dX8_monthOf_4 rfl (lv_at hl 0 rfl) ?_
      refine lv_sipush (v := 1900) hx hb dX8_monthOf_5 (by decide) ?_
      refine lv_iload_n hx hb dX8_monthOf_8 rfl (lv_at hl 1 rfl) ?_
      refine lv_bipush (v := 12) hx hb dX8_monthOf_9 (by decide) ?_
      refine lv_idiv hx hb dX8_monthOf_11 (by decide) ?_
      refine lv_iadd hx hb dX8_monthOf_12 ?_
      refine lv_iload_n hx hb dX8_monthOf_13 rfl (lv_at hl 1 rfl) ?_
      refine lv_bipush (v := 12) hx hb dX8_monthOf_14 (by decide) ?_
      refine lv_irem hx hb dX8_monthOf_16 (by decide) ?_
      refine lv_iconst (v := 1) hx hb dX8_monthOf_17 (by decide) ?_
      refine lv_iadd hx hb dX8_monthOf_18 ?_
      refine mm_callSi (n := 2) (As := [.int (1900 + (k / 12)), .int ((k - k / 12 * 12) + 1)]) (rest := [.int left]) (r := (m_X8_inMonth (1900 + (k / 12)) ((k - k / 12 * 12) + 1))) (q2 := q) ⟨hx, hb, hml, hown, hts⟩ (c_X8_inMonth l D b0 Pc cA ad q (1900 + (k / 12)) ((k - k / 12 * 12) + 1)) gX8_monthOf_X8_inMonth rfl (by decide +kernel) rfl ⟨Nat.le_of_ble_eq_true rfl, Nat.le_of_ble_eq_true rfl⟩ ⟨Nat.le_of_ble_eq_true rfl, Nat.le_of_ble_eq_true rfl⟩ hK hW hS hl.1 rfl (Nat.le_of_ble_eq_true rfl) dX8_monthOf_19 (fun H locs hW hS => ?_)
      refine lv_icmp_lt (tgt := 51) hx hb dX8_monthOf_22 (by decide) (fun c_2 => ?_) (fun c_2 => ?_)
      · exact kk k (by rw [m_X8_monthOf_lp, if_pos c_2])  H locs hW hS ls (lv_sub hl [1, 2] rfl)
      · refine lv_iload_n hx hb dX8_monthOf_25 rfl (lv_at hl 0 rfl) ?_
        refine lv_sipush (v := 1900) hx hb dX8_monthOf_26 (by decide) ?_
        refine lv_iload_n hx hb dX8_monthOf_29 rfl (lv_at hl 1 rfl) ?_
        refine lv_bipush (v := 12) hx hb dX8_monthOf_30 (by decide) ?_
        refine lv_idiv hx hb dX8_monthOf_32 (by decide) ?_
        refine lv_iadd hx hb dX8_monthOf_33 ?_
        refine lv_iload_n hx hb dX8_monthOf_34 rfl (lv_at hl 1 rfl) ?_
        refine lv_bipush (v := 12) hx hb dX8_monthOf_35 (by decide) ?_
        refine lv_irem hx hb dX8_monthOf_37 (by decide) ?_
        refine lv_iconst (v := 1) hx hb dX8_monthOf_38 (by decide) ?_
        refine lv_iadd hx hb dX8_monthOf_39 ?_
        refine mm_callSi (n := 2) (As := [.int (1900 + (k / 12)), .int ((k - k / 12 * 12) + 1)]) (rest := [.int left]) (r := (m_X8_inMonth (1900 + (k / 12)) ((k - k / 12 * 12) + 1))) (q2 := q) ⟨hx, hb, hml, hown, hts⟩ (c_X8_inMonth l D b0 Pc cA ad q (1900 + (k / 12)) ((k - k / 12 * 12) + 1)) gX8_monthOf_X8_inMonth rfl (by decide +kernel) rfl ⟨Nat.le_of_ble_eq_true rfl, Nat.le_of_ble_eq_true rfl⟩ ⟨Nat.le_of_ble_eq_true rfl, Nat.le_of_ble_eq_true rfl⟩ hK hW hS hl.1 rfl (Nat.le_of_ble_eq_true rfl) dX8_monthOf_40 (fun H locs hW hS => ?_)
        refine lv_isub hx hb dX8_monthOf_43 ?_
        refine lv_istore_n (lv' := [(1, .int (left - (m_X8_inMonth (1900 + (k / 12)) ((k - k / 12 * 12) + 1)))), (2, .int k), (0, .int day)]) hx hb dX8_monthOf_44 rfl hl (by decide) rfl (fun ls hl => ?_)
        refine lv_iinc (v := (k + 1)) (lv' := [(2, .int (k + 1)), (1, .int (left - (m_X8_inMonth (1900 + (k / 12)) ((k - k / 12 * 12) + 1)))), (0, .int day)]) hx hb dX8_monthOf_45 hl (k := 1) rfl (by first | rfl | decide) (by decide) rfl (fun ls hl => ?_)
        refine lv_goto (tgt := 4) hx hb dX8_monthOf_48 (by decide) ?_
        have h_3 : 0 ≤ (left - (m_X8_inMonth (1900 + (k / 12)) ((k - k / 12 * 12) + 1))).toInt := by
          have u_1 := rg_e left
          have u_2 := rg_e (m_X8_inMonth (1900 + (k / 12)) ((k - k / 12 * 12) + 1))
          have k_3 : (1900 : Int32).toInt = 1900 := rfl
          have u_4 := rg_e k
          have k_5 : (12 : Int32).toInt = 12 := rfl
          have r_6 := rg_e (k / 12)
          have r_8 := rg_e (k - k / 12 * 12)
          have k_9 : (1 : Int32).toInt = 1 := rfl
          have v_14 := cv_nlt c_2
          have w_15 := hd
          have w_16 := i1
          have u_6 := dv_e 12 k (rfl : (12 : Int32).toInt = 12) (by decide)
          have u_7 := ad_o 1900 (k / 12)
          have u_8 := rm_e 12 k (rfl : (12 : Int32).toInt = 12) (by decide)
          have u_10 := ad_o (k - k / 12 * 12) 1
          have u_11 := im_rg (1900 + (k / 12)) ((k - k / 12 * 12) + 1)
          have u_12 := su_o left (m_X8_inMonth (1900 + (k / 12)) ((k - k / 12 * 12) + 1))
          have u_13 := ad_o k 1
          omega
        have h_4 : (left - (m_X8_inMonth (1900 + (k / 12)) ((k - k / 12 * 12) + 1))).toInt < (n : Int) := by
          have u_1 := rg_e left
          have u_2 := rg_e (m_X8_inMonth (1900 + (k / 12)) ((k - k / 12 * 12) + 1))
          have k_3 : (1900 : Int32).toInt = 1900 := rfl
          have u_4 := rg_e k
          have k_5 : (12 : Int32).toInt = 12 := rfl
          have r_6 := rg_e (k / 12)
          have r_8 := rg_e (k - k / 12 * 12)
          have k_9 : (1 : Int32).toInt = 1 := rfl
          have v_14 := cv_nlt c_2
          have w_15 := hd
          have w_16 := i1
          have w_17 := hm
          have u_6 := dv_e 12 k (rfl : (12 : Int32).toInt = 12) (by decide)
          have u_7 := ad_o 1900 (k / 12)
          have u_8 := rm_e 12 k (rfl : (12 : Int32).toInt = 12) (by decide)
          have u_10 := ad_o (k - k / 12 * 12) 1
          have u_11 := im_rg (1900 + (k / 12)) ((k - k / 12 * 12) + 1)
          have u_12 := su_o left (m_X8_inMonth (1900 + (k / 12)) ((k - k / 12 * 12) + 1))
          have u_13 := ad_o k 1
          omega
        exact ih (left - (m_X8_inMonth (1900 + (k / 12)) ((k - k / 12 * 12) + 1))) (k + 1) h_3 h_4 (fun o_1 eo_1 => kk o_1 (eo_1.trans (by rw [m_X8_monthOf_lp, if_neg c_2]))) _ _ hW hS ls (lv_sub hl [1, 0, 2] rfl)
  have h_6 : 0 ≤ day.toInt := by
    have u_1 := rg_e day
    have k_2 : (0 : Int32).toInt = 0 := rfl
    have w_3 := hd
    omega
  have h_7 : day.toInt < (((Int.toNat day.toInt + 1) : Nat) : Int) := by
    have u_1 := rg_e day
    have k_2 : (0 : Int32).toInt = 0 := rfl
    have w_3 := hd
    omega
  refine lp_5 _ (Int.toNat day.toInt + 1) day 0 h_6 h_7 (fun o_1 eo_1 H locs hW hS ls hl => ?_) _ _ hW hS ls (lv_sub hl [1, 0, 2] rfl)
  refine lv_iload_n hx hb dX8_monthOf_51 rfl (lv_at hl 0 rfl) ?_
  exact mm_iret hx hb hr hlk hK hW hS (by rw [m_X8_monthOf, ← eo_1]) dX8_monthOf_52
end
section
/-! laid by wip/whole/tools/model2.py -/
/-- what holds of the reference's numbers at all times: of classes, folders, records; of lists -/
def gI (q : qM) : Prop := (∀ j, 0 ≤ (q.1 5 j).toInt ∧ (q.1 5 j).toInt ≤ 6) ∧ (∀ j, -1 ≤ (q.1 9 j).toInt ∧ (q.1 9 j).toInt ≤ 7) ∧ (∀ j, 0 ≤ (q.1 13 j).toInt ∧ (q.1 13 j).toInt ≤ 15) ∧ (0 ≤ (q.1 12 0).toInt ∧ (q.1 12 0).toInt ≤ 64) ∧ (∀ j, 0 ≤ (q.1 14 j).toInt ∧ (q.1 14 j).toInt ≤ 120000) ∧ (∀ j, -1 ≤ (q.1 10 j).toInt ∧ (q.1 10 j).toInt ≤ 120000) ∧ (∀ j, -1 ≤ (q.1 11 j).toInt ∧ (q.1 11 j).toInt ≤ 120000) ∧ (∀ j, 0 ≤ (q.1 6 j).toInt ∧ (q.1 6 j).toInt ≤ 1211) ∧ (1 ≤ (q.1 2 0).toInt ∧ (q.1 2 0).toInt ≤ 12) ∧ (∀ j : Nat, (j : Int) < (q.1 12 0).toInt → 0 ≤ (q.1 9 (Int32.toNatClampNeg (q.1 13 j))).toInt)
def lI (q : qM) : Prop := (0 ≤ (q.1 25 0).toInt ∧ (q.1 25 0).toInt ≤ 16) ∧ (∀ j, 0 ≤ (q.1 27 j).toInt ∧ (q.1 27 j).toInt ≤ 64) ∧ (∀ j, 0 ≤ (q.1 26 j).toInt ∧ (q.1 26 j).toInt ≤ 63) ∧ (∀ a k : Int32, 0 ≤ a.toInt → a.toInt ≤ 15 → 0 ≤ k.toInt → k.toInt < (q.1 27 (Int32.toNatClampNeg a)).toInt → (q.1 26 (Int32.toNatClampNeg ((64 * a) + k))).toInt < (q.1 12 0).toInt) ∧ (∀ j : Nat, (q.1 25 0).toInt ≤ (j : Int) → (q.1 27 j).toInt = 0) ∧ (0 ≤ (q.1 31 0).toInt ∧ (q.1 31 0).toInt ≤ 400)
def gI_f (f : Nat) : Bool := f == 5 || f == 9 || f == 13 || f == 12 || f == 14 || f == 10 || f == 11 || f == 6 || f == 2
theorem gI_i {q : qM} {f i : Nat} {v : Int32} (h : gI_f f = false) (hI : gI q) : gI (mq_i q f i v) := by
  simp [gI_f] at h
  obtain ⟨⟨⟨⟨⟨⟨⟨⟨h5, h9⟩, h13⟩, h12⟩, h14⟩, h10⟩, h11⟩, h6⟩, h2⟩ := h
  unfold gI
  rw [mq_i_ne q v (Ne.symm h5), mq_i_ne q v (Ne.symm h9), mq_i_ne q v (Ne.symm h13), mq_i_ne q v (Ne.symm h12), mq_i_ne q v (Ne.symm h14), mq_i_ne q v (Ne.symm h10), mq_i_ne q v (Ne.symm h11), mq_i_ne q v (Ne.symm h6), mq_i_ne q v (Ne.symm h2)]
  exact hI
theorem gI_l {q : qM} {f i : Nat} {v : Int64} (h : true = true) (hI : gI q) : gI (mq_l q f i v) := hI
def lI_f (f : Nat) : Bool := f == 25 || f == 27 || f == 26 || f == 12 || f == 31
theorem lI_i {q : qM} {f i : Nat} {v : Int32} (h : lI_f f = false) (hI : lI q) : lI (mq_i q f i v) := by
  simp [lI_f] at h
  obtain ⟨⟨⟨⟨h25, h27⟩, h26⟩, h12⟩, h31⟩ := h
  unfold lI
  rw [mq_i_ne q v (Ne.symm h25), mq_i_ne q v (Ne.symm h27), mq_i_ne q v (Ne.symm h26), mq_i_ne q v (Ne.symm h12), mq_i_ne q v (Ne.symm h31)]
  exact hI
theorem lI_l {q : qM} {f i : Nat} {v : Int64} (h : true = true) (hI : lI q) : lI (mq_l q f i v) := hI
theorem nf_t {q : qM} {f : Int32} (h : m_X8_noFolder q f = 0) : 0 ≤ f.toInt ∧ f.toInt ≤ 15 ∧ ¬ (q.1 9 (Int32.toNatClampNeg f)).toInt = -1 := by
  unfold m_X8_noFolder at h
  by_cases h1 : m_X8_isIn f 0 15 = 0
  · rw [if_pos h1] at h; exact absurd h (by decide)
  · rw [if_neg h1] at h
    have h2 := is_t h1
    by_cases h3 : (q.1 9 (Int32.toNatClampNeg f)) = (-1)
    · rw [if_pos h3] at h; exact absurd h (by decide)
    · exact ⟨h2.1, h2.2, cv_ne h3⟩
theorem nr_t {q : qM} {r : Int32} (hI : gI q) (h : m_X8_noRecord q r = 0) : 0 ≤ r.toInt ∧ r.toInt < (q.1 12 0).toInt := by
  unfold m_X8_noRecord at h
  have h9 := hI.2.2.2.1
  obtain ⟨t, ht⟩ := su_e (q.1 12 0) 1
  have k1 : (1 : Int32).toInt = 1 := rfl
  by_cases h1 : m_X8_isIn r 0 ((q.1 12 0) - 1) = 0
  · rw [if_pos h1] at h; exact absurd h (by decide)
  · have h2 := is_t h1
    have k0 : (0 : Int32).toInt = 0 := rfl
    omega
theorem nl_t {q : qM} {r : Int32} (hL : lI q) (h : m_X8_noList q r = 0) : 0 ≤ r.toInt ∧ r.toInt < (q.1 25 0).toInt ∧ r.toInt ≤ 15 := by
  unfold m_X8_noList at h
  have h9 := hL.1
  obtain ⟨t, ht⟩ := su_e (q.1 25 0) 1
  have k1 : (1 : Int32).toInt = 1 := rfl
  by_cases h1 : m_X8_isIn r 0 ((q.1 25 0) - 1) = 0
  · rw [if_pos h1] at h; exact absurd h (by decide)
  · have h2 := is_t h1
    have k0 : (0 : Int32).toInt = 0 := rfl
    omega
theorem na_t {q : qM} {r : Int32} (hL : lI q) (h : m_X8_noAct q r = 0) : 0 ≤ r.toInt ∧ r.toInt < (q.1 31 0).toInt ∧ r.toInt ≤ 399 := by
  unfold m_X8_noAct at h
  have h9 := hL.2.2.2.2.2
  obtain ⟨t, ht⟩ := su_e (q.1 31 0) 1
  have k1 : (1 : Int32).toInt = 1 := rfl
  by_cases h1 : m_X8_isIn r 0 ((q.1 31 0) - 1) = 0
  · rw [if_pos h1] at h; exact absurd h (by decide)
  · have h2 := is_t h1
    have k0 : (0 : Int32).toInt = 0 := rfl
    omega
theorem no_t {k : Int32} (h : m_X8_noOfficer k = 0) : 0 ≤ k.toInt ∧ k.toInt ≤ 7 := by
  unfold m_X8_noOfficer at h
  by_cases h1 : m_X8_isIn k 0 7 = 0
  · rw [if_pos h1] at h; exact absurd h (by decide)
  · exact is_t h1
theorem hr_t {q : qM} {n : Int32} (h : ¬ m_X8_hasRoom q n = 0) : (q.1 31 0).toInt + n.toInt ≤ 400 ∨ 2147483647 < (q.1 31 0).toInt + n.toInt := by
  unfold m_X8_hasRoom at h
  by_cases h1 : 400 < ((q.1 31 0) + n)
  · rw [if_pos h1] at h; exact absurd rfl h
  · have h2 := cv_nlt h1
    have h3 := ad_o (q.1 31 0) n
    have k4 : (400 : Int32).toInt = 400 := rfl
    omega
theorem dy_t {q : qM} {d : Int32} (h : ¬ m_X8_isDay q d = 0) : 0 ≤ d.toInt ∧ d.toInt ≤ 120000 ∧ (q.1 3 0).toInt ≤ d.toInt := by
  unfold m_X8_isDay at h
  by_cases h1 : m_X8_isIn d 0 120000 = 0
  · rw [if_pos h1] at h; exact absurd rfl h
  · rw [if_neg h1] at h
    have h2 := is_t h1
    by_cases h3 : d < (q.1 3 0)
    · rw [if_pos h3] at h; exact absurd rfl h
    · exact ⟨h2.1, h2.2, cv_nlt h3⟩
theorem tm_t {a b : Int32} (h : ¬ m_X8_isTerm a b = 0) : 0 ≤ a.toInt ∧ a.toInt ≤ 100 ∧ 0 ≤ b.toInt ∧ b.toInt ≤ 11 := by
  unfold m_X8_isTerm at h
  by_cases h1 : m_X8_isIn a 0 100 = 0
  · rw [if_pos h1] at h; exact absurd rfl h
  · rw [if_neg h1] at h
    have h2 := is_t h1
    by_cases h3 : m_X8_isIn b 0 11 = 0
    · rw [if_pos h3] at h; exact absurd rfl h
    · have h4 := is_t h3
      exact ⟨h2.1, h2.2, h4.1, h4.2⟩

theorem mo_lp_rg : ∀ (n : Nat) (a k : Int32), 0 ≤ a.toInt → 0 ≤ k.toInt → a.toInt + k.toInt ≤ 200000 → 0 ≤ (m_X8_monthOf_lp n a k).toInt ∧ (m_X8_monthOf_lp n a k).toInt ≤ a.toInt + k.toInt := by
  intro n
  induction n with
  | zero => intro a k h1 h2 h3; exact ⟨by show 0 ≤ (0 : Int32).toInt; decide, by show (0 : Int32).toInt ≤ _; have k0 : (0 : Int32).toInt = 0 := rfl; omega⟩
  | succ n ih =>
    intro a k h1 h2 h3
    rw [m_X8_monthOf_lp]
    by_cases h : a < m_X8_inMonth (1900 + (k / 12)) ((k - k / 12 * 12) + 1)
    · rw [if_pos h]; exact ⟨h2, by omega⟩
    · rw [if_neg h]
      have g1 := im_rg (1900 + (k / 12)) ((k - k / 12 * 12) + 1)
      have g2 := cv_nlt h
      obtain ⟨t, ht⟩ := su_e a (m_X8_inMonth (1900 + (k / 12)) ((k - k / 12 * 12) + 1))
      obtain ⟨t2, ht2⟩ := ad_e k 1
      have k1 : (1 : Int32).toInt = 1 := rfl
      have := ih (a - m_X8_inMonth (1900 + (k / 12)) ((k - k / 12 * 12) + 1)) (k + 1) (by omega) (by omega) (by omega)
      omega
theorem mo_rg (d : Int32) (h1 : 0 ≤ d.toInt) (h2 : d.toInt ≤ 200000) : 0 ≤ (m_X8_monthOf d).toInt ∧ (m_X8_monthOf d).toInt ≤ d.toInt := by
  have := mo_lp_rg (Int.toNat d.toInt + 1) d 0 h1 (by decide) (by have k0 : (0 : Int32).toInt = 0 := rfl; omega)
  have k0 : (0 : Int32).toInt = 0 := rfl
  unfold m_X8_monthOf
  omega

def m_X8_begin_lp (month : Int32) : Nat → Int32 → Int32 → Int32
  | 0, _, _ => 0
  | n + 1, day, k => (if month ≤ k then day else (m_X8_begin_lp month n (day + (m_X8_inMonth (1900 + (k / 12)) ((k - k / 12 * 12) + 1))) (k + 1)))
def m_X8_begin (month : Int32) : Int32 := (m_X8_begin_lp month (Int.toNat month.toInt + 1) 0 0)
set_option maxHeartbeats 4000000 in
set_option maxRecDepth 100000 in
theorem c_X8_begin (l : Launch) (D : va_G) (b0 : Nat) (Pc : Nat → Nat → Option va_E) (cA : Nat → ClassId) (ad : Nat → Nat → Nat) (q : qM) (month : Int32) (hd : 0 ≤ (month : Int32).toInt) : mc_i l yX8_begin wsX8_begin 1 22 D b0 Pc cA ad q [.int month] (m_X8_begin month, q) := by
  refine mc_of (by decide) rfl (Nat.le_of_ble_eq_true rfl) ?_
  intro p e s m below meth c hx hb hml hr hlk hown hts hK hW ls hl
  have hown : s.vm.findClass RX8 = some m.cls := hown
  have hS : va_S (wA b0) s.heap s.heap [] := va_S.rf
  have hl : lv_has ls 3 [(0, .int month)] := hl
  refine lv_iconst (v := 0) hx hb dX8_begin_0 (by decide) ?_
  refine lv_istore_n (lv' := [(1, .int 0), (0, .int month)]) hx hb dX8_begin_1 rfl hl (by decide) rfl (fun ls hl => ?_)
  refine lv_iconst (v := 0) hx hb dX8_begin_2 (by decide) ?_
  refine lv_istore_n (lv' := [(2, .int 0), (1, .int 0), (0, .int month)]) hx hb dX8_begin_3 rfl hl (by decide) rfl (fun ls hl => ?_)
  have lp_5 : ∀ (Q : State → Prop) (n : Nat) (day : Int32) (k : Int32), 0 ≤ k.toInt ∧ k.toInt ≤ month.toInt → month.toInt - k.toInt < (n : Int) → (∀ o_1 : Int32, o_1 = (m_X8_begin_lp month n day k) → ∀ (H : Heap) (locs : List Loc), wd D (wA b0) (PW Pc cA ad q) ad H → va_S (wA b0) s.heap H locs → ∀ ls : Array Slot, lv_has ls 3 [(1, .int o_1), (0, .int month)] → W p l e { frames := 1, cells := 0, slots := 0, locals := 22 } s m [.int month].toArray below meth c H locs 0 0 Q (F0 m 35 ls [])) → ∀ (H : Heap) (locs : List Loc), wd D (wA b0) (PW Pc cA ad q) ad H → va_S (wA b0) s.heap H locs → ∀ ls : Array Slot, lv_has ls 3 [(1, .int day), (2, .int k), (0, .int month)] → W p l e { frames := 1, cells := 0, slots := 0, locals := 22 } s m [.int month].toArray below meth c H locs 0 0 Q (F0 m 4 ls []) := by
    intro Q n
    induction n with
    | zero =>
      intro day k i1 hm
      have hz : 0 ≤ month.toInt - k.toInt := by
        have w_1 := hd
        have w_2 := i1
        omega
      exact absurd hm (by omega)
    | succ n ih =>
      intro day k i1 hm kk H locs hW hS ls hl
      refine lv_iload_n hx hb dX8_begin_4 rfl (lv_at hl 1 rfl) ?_
      refine lv_iload_n hx hb dX8_begin_5 rfl (lv_at hl 2 rfl) ?_
      refine lv_icmp_ge (tgt := 35) hx hb dX8_begin_6 (by decide) (fun c_2 => ?_) (fun c_2 => ?_)
      · exact kk day (by rw [m_X8_begin_lp, if_pos c_2])  H locs hW hS ls (lv_sub hl [0, 2] rfl)
      · refine lv_iload_n hx hb dX8_begin_9 rfl (lv_at hl 0 rfl) ?_
        refine lv_sipush (v := 1900) hx hb dX8_begin_10 (by decide) ?_
        refine lv_iload_n hx hb dX8_begin_13 rfl (lv_at hl 1 rfl) ?_
        refine lv_bipush (v := 12) hx hb dX8_begin_14 (by decide) ?_
        refine lv_idiv hx hb dX8_begin_16 (by decide) ?_
        refine lv_iadd hx hb dX8_begin_17 ?_
        refine lv_iload_n hx hb dX8_begin_18 rfl (lv_at hl 1 rfl) ?_
        refine lv_bipush (v := 12) hx hb dX8_begin_19 (by decide) ?_
        refine lv_irem hx hb dX8_begin_21 (by decide) ?_
        refine lv_iconst (v := 1) hx hb dX8_begin_22 (by decide) ?_
        refine lv_iadd hx hb dX8_begin_23 ?_
        refine mm_callSi (n := 2) (As := [.int (1900 + (k / 12)), .int ((k - k / 12 * 12) + 1)]) (rest := [.int day]) (r := (m_X8_inMonth (1900 + (k / 12)) ((k - k / 12 * 12) + 1))) (q2 := q) ⟨hx, hb, hml, hown, hts⟩ (c_X8_inMonth l D b0 Pc cA ad q (1900 + (k / 12)) ((k - k / 12 * 12) + 1)) gX8_begin_X8_inMonth rfl (by decide +kernel) rfl ⟨Nat.le_of_ble_eq_true rfl, Nat.le_of_ble_eq_true rfl⟩ ⟨Nat.le_of_ble_eq_true rfl, Nat.le_of_ble_eq_true rfl⟩ hK hW hS hl.1 rfl (Nat.le_of_ble_eq_true rfl) dX8_begin_24 (fun H locs hW hS => ?_)
        refine lv_iadd hx hb dX8_begin_27 ?_
        refine lv_istore_n (lv' := [(1, .int (day + (m_X8_inMonth (1900 + (k / 12)) ((k - k / 12 * 12) + 1)))), (2, .int k), (0, .int month)]) hx hb dX8_begin_28 rfl hl (by decide) rfl (fun ls hl => ?_)
        refine lv_iinc (v := (k + 1)) (lv' := [(2, .int (k + 1)), (1, .int (day + (m_X8_inMonth (1900 + (k / 12)) ((k - k / 12 * 12) + 1)))), (0, .int month)]) hx hb dX8_begin_29 hl (k := 1) rfl (by first | rfl | decide) (by decide) rfl (fun ls hl => ?_)
        refine lv_goto (tgt := 4) hx hb dX8_begin_32 (by decide) ?_
        have h_3 : 0 ≤ (k + 1).toInt ∧ (k + 1).toInt ≤ month.toInt := by
          have u_1 := rg_e day
          have u_2 := rg_e (m_X8_inMonth (1900 + (k / 12)) ((k - k / 12 * 12) + 1))
          have k_3 : (1900 : Int32).toInt = 1900 := rfl
          have u_4 := rg_e k
          have k_5 : (12 : Int32).toInt = 12 := rfl
          have r_6 := rg_e (k / 12)
          have r_8 := rg_e (k - k / 12 * 12)
          have k_9 : (1 : Int32).toInt = 1 := rfl
          have u_14 := rg_e month
          have v_15 := cv_nle c_2
          have w_16 := hd
          have w_17 := i1
          have u_6 := dv_e 12 k (rfl : (12 : Int32).toInt = 12) (by decide)
          have u_7 := ad_o 1900 (k / 12)
          have u_8 := rm_e 12 k (rfl : (12 : Int32).toInt = 12) (by decide)
          have u_10 := ad_o (k - k / 12 * 12) 1
          have u_11 := im_rg (1900 + (k / 12)) ((k - k / 12 * 12) + 1)
          have u_12 := ad_o day (m_X8_inMonth (1900 + (k / 12)) ((k - k / 12 * 12) + 1))
          have u_13 := ad_o k 1
          omega
        have h_4 : month.toInt - (k + 1).toInt < (n : Int) := by
          have u_1 := rg_e day
          have u_2 := rg_e (m_X8_inMonth (1900 + (k / 12)) ((k - k / 12 * 12) + 1))
          have k_3 : (1900 : Int32).toInt = 1900 := rfl
          have u_4 := rg_e k
          have k_5 : (12 : Int32).toInt = 12 := rfl
          have r_6 := rg_e (k / 12)
          have r_8 := rg_e (k - k / 12 * 12)
          have k_9 : (1 : Int32).toInt = 1 := rfl
          have u_14 := rg_e month
          have v_15 := cv_nle c_2
          have w_16 := hd
          have w_17 := i1
          have w_18 := hm
          have u_6 := dv_e 12 k (rfl : (12 : Int32).toInt = 12) (by decide)
          have u_7 := ad_o 1900 (k / 12)
          have u_8 := rm_e 12 k (rfl : (12 : Int32).toInt = 12) (by decide)
          have u_10 := ad_o (k - k / 12 * 12) 1
          have u_11 := im_rg (1900 + (k / 12)) ((k - k / 12 * 12) + 1)
          have u_12 := ad_o day (m_X8_inMonth (1900 + (k / 12)) ((k - k / 12 * 12) + 1))
          have u_13 := ad_o k 1
          omega
        exact ih (day + (m_X8_inMonth (1900 + (k / 12)) ((k - k / 12 * 12) + 1))) (k + 1) h_3 h_4 (fun o_1 eo_1 => kk o_1 (eo_1.trans (by rw [m_X8_begin_lp, if_neg c_2]))) _ _ hW hS ls (lv_sub hl [1, 0, 2] rfl)
  have h_6 : 0 ≤ (0 : Int32).toInt ∧ (0 : Int32).toInt ≤ month.toInt := by
    have k_1 : (0 : Int32).toInt = 0 := rfl
    have w_2 := hd
    omega
  have h_7 : month.toInt - (0 : Int32).toInt < (((Int.toNat month.toInt + 1) : Nat) : Int) := by
    have k_1 : (0 : Int32).toInt = 0 := rfl
    have w_2 := hd
    omega
  refine lp_5 _ (Int.toNat month.toInt + 1) 0 0 h_6 h_7 (fun o_1 eo_1 H locs hW hS ls hl => ?_) _ _ hW hS ls (lv_sub hl [1, 0, 2] rfl)
  refine lv_iload_n hx hb dX8_begin_35 rfl (lv_at hl 0 rfl) ?_
  exact mm_iret hx hb hr hlk hK hW hS (by rw [m_X8_begin, ← eo_1]) dX8_begin_36

def m_X8_add (day : Int32) (months : Int32) : Int32 := (if ((m_X8_inMonth (1900 + (((m_X8_monthOf day) + months) / 12)) ((((m_X8_monthOf day) + months) - ((m_X8_monthOf day) + months) / 12 * 12) + 1)) - 1) ≤ (day - (m_X8_begin (m_X8_monthOf day))) then ((m_X8_begin ((m_X8_monthOf day) + months)) + ((m_X8_inMonth (1900 + (((m_X8_monthOf day) + months) / 12)) ((((m_X8_monthOf day) + months) - ((m_X8_monthOf day) + months) / 12 * 12) + 1)) - 1)) else ((m_X8_begin ((m_X8_monthOf day) + months)) + (day - (m_X8_begin (m_X8_monthOf day)))))
set_option maxHeartbeats 4000000 in
set_option maxRecDepth 100000 in
theorem c_X8_add (l : Launch) (D : va_G) (b0 : Nat) (Pc : Nat → Nat → Option va_E) (cA : Nat → ClassId) (ad : Nat → Nat → Nat) (q : qM) (day : Int32) (months : Int32) (hd : 0 ≤ (day : Int32).toInt ∧ (day : Int32).toInt ≤ 200000) (hn : 0 ≤ (months : Int32).toInt ∧ (months : Int32).toInt ≤ 2000) : mc_i l yX8_add wsX8_add 2 44 D b0 Pc cA ad q [.int day, .int months] (m_X8_add day months, q) := by
  refine mc_of (by decide) rfl (Nat.le_of_ble_eq_true rfl) ?_
  intro p e s m below meth c hx hb hml hr hlk hown hts hK hW ls hl
  have hown : s.vm.findClass RX8 = some m.cls := hown
  have hS : va_S (wA b0) s.heap s.heap [] := va_S.rf
  have hl : lv_has ls 6 [(0, .int day), (1, .int months)] := hl
  refine lv_iload_n hx hb dX8_add_0 rfl (lv_at hl 0 rfl) ?_
  have h_1 : 0 ≤ (day : Int32).toInt := by
    have u_1 := rg_e day
    have w_2 := hd
    have w_3 := hn
    exact by omega
  refine mm_callSi (n := 1) (As := [.int day]) (rest := []) (r := (m_X8_monthOf day)) (q2 := q) ⟨hx, hb, hml, hown, hts⟩ (c_X8_monthOf l D b0 Pc cA ad q day h_1) gX8_add_X8_monthOf rfl (by decide +kernel) rfl ⟨Nat.le_of_ble_eq_true rfl, Nat.le_of_ble_eq_true rfl⟩ ⟨Nat.le_of_ble_eq_true rfl, Nat.le_of_ble_eq_true rfl⟩ hK hW hS hl.1 rfl (Nat.le_of_ble_eq_true rfl) dX8_add_1 (fun H locs hW hS => ?_)
  refine lv_istore_n (lv' := [(2, .int (m_X8_monthOf day)), (0, .int day), (1, .int months)]) hx hb dX8_add_4 rfl hl (by decide) rfl (fun ls hl => ?_)
  refine lv_iload_n hx hb dX8_add_5 rfl (lv_at hl 1 rfl) ?_
  refine lv_iload_n hx hb dX8_add_6 rfl (lv_at hl 0 rfl) ?_
  have h_2 : 0 ≤ ((m_X8_monthOf day) : Int32).toInt := by
    have u_1 := rg_e (m_X8_monthOf day)
    have u_2 := rg_e day
    have w_4 := hd
    have w_5 := hn
    have u_3 := (fun h1 h2 => mo_rg day h1 h2)
    exact by omega
  refine mm_callSi (n := 1) (As := [.int (m_X8_monthOf day)]) (rest := [.int day]) (r := (m_X8_begin (m_X8_monthOf day))) (q2 := q) ⟨hx, hb, hml, hown, hts⟩ (c_X8_begin l D b0 Pc cA ad q (m_X8_monthOf day) h_2) gX8_add_X8_begin rfl (by decide +kernel) rfl ⟨Nat.le_of_ble_eq_true rfl, Nat.le_of_ble_eq_true rfl⟩ ⟨Nat.le_of_ble_eq_true rfl, Nat.le_of_ble_eq_true rfl⟩ hK hW hS hl.1 rfl (Nat.le_of_ble_eq_true rfl) dX8_add_7 (fun H locs hW hS => ?_)
  refine lv_isub hx hb dX8_add_10 ?_
  refine lv_istore_n (lv' := [(3, .int (day - (m_X8_begin (m_X8_monthOf day)))), (2, .int (m_X8_monthOf day)), (0, .int day), (1, .int months)]) hx hb dX8_add_11 rfl hl (by decide) rfl (fun ls hl => ?_)
  refine lv_iload_n hx hb dX8_add_12 rfl (lv_at hl 1 rfl) ?_
  refine lv_iload_n hx hb dX8_add_13 rfl (lv_at hl 3 rfl) ?_
  refine lv_iadd hx hb dX8_add_14 ?_
  refine lv_istore (lv' := [(4, .int ((m_X8_monthOf day) + months)), (3, .int (day - (m_X8_begin (m_X8_monthOf day)))), (2, .int (m_X8_monthOf day)), (0, .int day), (1, .int months)]) hx hb dX8_add_15 hl (by decide) rfl (fun ls hl => ?_)
  refine lv_sipush (v := 1900) hx hb dX8_add_17 (by decide) ?_
  refine lv_iload hx hb dX8_add_20 (lv_at hl 0 rfl) ?_
  refine lv_bipush (v := 12) hx hb dX8_add_22 (by decide) ?_
  refine lv_idiv hx hb dX8_add_24 (by decide) ?_
  refine lv_iadd hx hb dX8_add_25 ?_
  refine lv_iload hx hb dX8_add_26 (lv_at hl 0 rfl) ?_
  refine lv_bipush (v := 12) hx hb dX8_add_28 (by decide) ?_
  refine lv_irem hx hb dX8_add_30 (by decide) ?_
  refine lv_iconst (v := 1) hx hb dX8_add_31 (by decide) ?_
  refine lv_iadd hx hb dX8_add_32 ?_
  refine mm_callSi (n := 2) (As := [.int (1900 + (((m_X8_monthOf day) + months) / 12)), .int ((((m_X8_monthOf day) + months) - ((m_X8_monthOf day) + months) / 12 * 12) + 1)]) (rest := []) (r := (m_X8_inMonth (1900 + (((m_X8_monthOf day) + months) / 12)) ((((m_X8_monthOf day) + months) - ((m_X8_monthOf day) + months) / 12 * 12) + 1))) (q2 := q) ⟨hx, hb, hml, hown, hts⟩ (c_X8_inMonth l D b0 Pc cA ad q (1900 + (((m_X8_monthOf day) + months) / 12)) ((((m_X8_monthOf day) + months) - ((m_X8_monthOf day) + months) / 12 * 12) + 1)) gX8_add_X8_inMonth rfl (by decide +kernel) rfl ⟨Nat.le_of_ble_eq_true rfl, Nat.le_of_ble_eq_true rfl⟩ ⟨Nat.le_of_ble_eq_true rfl, Nat.le_of_ble_eq_true rfl⟩ hK hW hS hl.1 rfl (Nat.le_of_ble_eq_true rfl) dX8_add_33 (fun H locs hW hS => ?_)
  refine lv_iconst (v := 1) hx hb dX8_add_36 (by decide) ?_
  refine lv_isub hx hb dX8_add_37 ?_
  refine lv_istore (lv' := [(5, .int ((m_X8_inMonth (1900 + (((m_X8_monthOf day) + months) / 12)) ((((m_X8_monthOf day) + months) - ((m_X8_monthOf day) + months) / 12 * 12) + 1)) - 1)), (4, .int ((m_X8_monthOf day) + months)), (3, .int (day - (m_X8_begin (m_X8_monthOf day)))), (2, .int (m_X8_monthOf day)), (0, .int day), (1, .int months)]) hx hb dX8_add_38 hl (by decide) rfl (fun ls hl => ?_)
  refine lv_iload hx hb dX8_add_40 (lv_at hl 1 rfl) ?_
  have h_3 : 0 ≤ (((m_X8_monthOf day) + months) : Int32).toInt := by
    have u_1 := rg_e (m_X8_monthOf day)
    have u_2 := rg_e day
    have u_4 := rg_e months
    have w_6 := hd
    have w_7 := hn
    have u_3 := (fun h1 h2 => mo_rg day h1 h2)
    have u_5 := ad_o (m_X8_monthOf day) months
    exact by omega
  refine mm_callSi (n := 1) (As := [.int ((m_X8_monthOf day) + months)]) (rest := []) (r := (m_X8_begin ((m_X8_monthOf day) + months))) (q2 := q) ⟨hx, hb, hml, hown, hts⟩ (c_X8_begin l D b0 Pc cA ad q ((m_X8_monthOf day) + months) h_3) gX8_add_X8_begin rfl (by decide +kernel) rfl ⟨Nat.le_of_ble_eq_true rfl, Nat.le_of_ble_eq_true rfl⟩ ⟨Nat.le_of_ble_eq_true rfl, Nat.le_of_ble_eq_true rfl⟩ hK hW hS hl.1 rfl (Nat.le_of_ble_eq_true rfl) dX8_add_42 (fun H locs hW hS => ?_)
  refine lv_iload_n hx hb dX8_add_45 rfl (lv_at hl 2 rfl) ?_
  refine lv_iload hx hb dX8_add_46 (lv_at hl 0 rfl) ?_
  refine lv_icmp_ge (tgt := 55) hx hb dX8_add_48 (by decide) (fun c_4 => ?_) (fun c_4 => ?_)
  · refine lv_iload hx hb dX8_add_55 (lv_at hl 0 rfl) ?_
    refine lv_iadd hx hb dX8_add_57 ?_
    exact mm_iret hx hb hr hlk hK hW hS (by rw [m_X8_add, if_pos c_4]) dX8_add_58
  · refine lv_iload_n hx hb dX8_add_51 rfl (lv_at hl 2 rfl) ?_
    refine lv_goto (tgt := 57) hx hb dX8_add_52 (by decide) ?_
    refine lv_iadd hx hb dX8_add_57 ?_
    exact mm_iret hx hb hr hlk hK hW hS (by rw [m_X8_add, if_neg c_4]) dX8_add_58

def m_X8_later (q : qM) (day : Int32) (years : Int32) (months : Int32) : Int32 × qM := (if (m_X8_isIn day 0 120000) = 0 then (0, (mq_i q 0 0 1)) else (if (m_X8_isTerm years months) = 0 then (0, (mq_i q 0 0 1)) else ((m_X8_add day ((12 * years) + months)), (mq_i q 0 0 0))))
set_option maxHeartbeats 4000000 in
set_option maxRecDepth 100000 in
theorem c_X8_later (l : Launch) (D : va_G) (b0 : Nat) (Pc : Nat → Nat → Option va_E) (cA : Nat → ClassId) (ad : Nat → Nat → Nat) (q : qM) (day : Int32) (years : Int32) (months : Int32) : mc_i l yX8_later wsX8_later 3 69 D b0 Pc cA ad q [.ref (ad 20 0), .int day, .int years, .int months] (m_X8_later q day years months) := by
  refine mc_of (by decide) rfl (Nat.le_of_ble_eq_true rfl) ?_
  intro p e s m below meth c hx hb hml hr hlk hown hts hK hW ls hl
  have hown : s.vm.findClass RX8 = some m.cls := hown
  have hS : va_S (wA b0) s.heap s.heap [] := va_S.rf
  have hl : lv_has ls 4 [(0, .ref (ad 20 0)), (1, .int day), (2, .int years), (3, .int months)] := hl
  have hin : ∀ w ∈ wsX80, w ∈ wsX8_later := fun w h => List.mem_cons_of_mem _ (List.mem_append_right _ h)
  refine lv_aload_n hx hb dX8_later_0 rfl (lv_at hl 0 rfl) ?_
  refine lv_iload_n hx hb dX8_later_1 rfl (lv_at hl 1 rfl) ?_
  refine lv_iconst (v := 0) hx hb dX8_later_2 (by decide) ?_
  refine lv_ldc (v := 120000) hx hb hown (hts _ (List.mem_of_getElem? (i := 1) rfl)) dX8_later_3 ?_
  refine mm_callSi (n := 3) (As := [.int day, .int 0, .int 120000]) (rest := [.ref (ad 20 0)]) (r := (m_X8_isIn day 0 120000)) (q2 := q) ⟨hx, hb, hml, hown, hts⟩ (c_X8_isIn l D b0 Pc cA ad q day 0 120000) gX8_later_X8_isIn rfl (by decide +kernel) rfl ⟨Nat.le_of_ble_eq_true rfl, Nat.le_of_ble_eq_true rfl⟩ ⟨Nat.le_of_ble_eq_true rfl, Nat.le_of_ble_eq_true rfl⟩ hK hW hS hl.1 rfl (Nat.le_of_ble_eq_true rfl) dX8_later_5 (fun H locs hW hS => ?_)
  refine lv_if_eq (tgt := 23) hx hb dX8_later_8 (by decide) (fun c_1 => ?_) (fun c_1 => ?_)
  · refine lv_iconst (v := 1) hx hb dX8_later_23 (by decide) ?_
    refine mm_put hx hb hts hin hown hK hW hS 0 (by decide) (List.mem_of_getElem? (i := 2) rfl) rfl rfl (by decide +kernel) rfl (ws_0 ad _ _) dX8_later_24 (fun H locs hW hS => ?_)
    refine lv_aload_n hx hb dX8_later_27 rfl (lv_at hl 0 rfl) ?_
    refine mm_gets (v := 1) hx hb hts hin hown hK hW 0 (by decide) (List.mem_of_getElem? (i := 2) rfl) rfl rfl (mq_same q 0 0 1) dX8_later_28 ?_
    refine lv_if_le (tgt := 38) hx hb dX8_later_31 (by decide) (fun h => absurd h (by decide)) (fun _ => ?_)
    refine lv_iconst (v := 0) hx hb dX8_later_34 (by decide) ?_
    refine lv_goto (tgt := 48) hx hb dX8_later_35 (by decide) ?_
    exact mm_iret hx hb hr hlk hK hW hS (by rw [m_X8_later, if_pos c_1]) dX8_later_48
  · refine lv_iload_n hx hb dX8_later_11 rfl (lv_at hl 2 rfl) ?_
    refine lv_iload_n hx hb dX8_later_12 rfl (lv_at hl 3 rfl) ?_
    refine mm_callSi (n := 2) (As := [.int years, .int months]) (rest := [.ref (ad 20 0)]) (r := (m_X8_isTerm years months)) (q2 := q) ⟨hx, hb, hml, hown, hts⟩ (c_X8_isTerm l D b0 Pc cA ad q years months) gX8_later_X8_isTerm rfl (by decide +kernel) rfl ⟨Nat.le_of_ble_eq_true rfl, Nat.le_of_ble_eq_true rfl⟩ ⟨Nat.le_of_ble_eq_true rfl, Nat.le_of_ble_eq_true rfl⟩ hK hW hS hl.1 rfl (Nat.le_of_ble_eq_true rfl) dX8_later_13 (fun H locs hW hS => ?_)
    refine lv_if_eq (tgt := 23) hx hb dX8_later_16 (by decide) (fun c_2 => ?_) (fun c_2 => ?_)
    · refine lv_iconst (v := 1) hx hb dX8_later_23 (by decide) ?_
      refine mm_put hx hb hts hin hown hK hW hS 0 (by decide) (List.mem_of_getElem? (i := 2) rfl) rfl rfl (by decide +kernel) rfl (ws_0 ad _ _) dX8_later_24 (fun H locs hW hS => ?_)
      refine lv_aload_n hx hb dX8_later_27 rfl (lv_at hl 0 rfl) ?_
      refine mm_gets (v := 1) hx hb hts hin hown hK hW 0 (by decide) (List.mem_of_getElem? (i := 2) rfl) rfl rfl (mq_same q 0 0 1) dX8_later_28 ?_
      refine lv_if_le (tgt := 38) hx hb dX8_later_31 (by decide) (fun h => absurd h (by decide)) (fun _ => ?_)
      refine lv_iconst (v := 0) hx hb dX8_later_34 (by decide) ?_
      refine lv_goto (tgt := 48) hx hb dX8_later_35 (by decide) ?_
      exact mm_iret hx hb hr hlk hK hW hS (by rw [m_X8_later, if_neg c_1, if_pos c_2]) dX8_later_48
    · refine lv_iconst (v := 0) hx hb dX8_later_19 (by decide) ?_
      refine lv_goto (tgt := 24) hx hb dX8_later_20 (by decide) ?_
      refine mm_put hx hb hts hin hown hK hW hS 0 (by decide) (List.mem_of_getElem? (i := 2) rfl) rfl rfl (by decide +kernel) rfl (ws_0 ad _ _) dX8_later_24 (fun H locs hW hS => ?_)
      refine lv_aload_n hx hb dX8_later_27 rfl (lv_at hl 0 rfl) ?_
      refine mm_gets (v := 0) hx hb hts hin hown hK hW 0 (by decide) (List.mem_of_getElem? (i := 2) rfl) rfl rfl (mq_same q 0 0 0) dX8_later_28 ?_
      refine lv_if_le (tgt := 38) hx hb dX8_later_31 (by decide) (fun _ => ?_) (fun h => absurd h (by decide))
      refine lv_iload_n hx hb dX8_later_38 rfl (lv_at hl 1 rfl) ?_
      refine lv_bipush (v := 12) hx hb dX8_later_39 (by decide) ?_
      refine lv_iload_n hx hb dX8_later_41 rfl (lv_at hl 2 rfl) ?_
      refine lv_imul hx hb dX8_later_42 ?_
      refine lv_iload_n hx hb dX8_later_43 rfl (lv_at hl 3 rfl) ?_
      refine lv_iadd hx hb dX8_later_44 ?_
      have h_3 : 0 ≤ (day : Int32).toInt ∧ (day : Int32).toInt ≤ 200000 := by
        have u_1 := rg_e day
        have k_2 : (12 : Int32).toInt = 12 := rfl
        have u_3 := rg_e years
        have u_5 := rg_e months
        have u_7 := rg_e (m_X8_isIn day 0 120000)
        have k_8 : (0 : Int32).toInt = 0 := rfl
        have v_9 := cv_ne c_1
        have k_10 : (120000 : Int32).toInt = 120000 := rfl
        have v_11 := is_t c_1
        have u_12 := rg_e (m_X8_isTerm years months)
        have v_13 := cv_ne c_2
        have v_14 := tm_t c_2
        have u_4 := mu_o 12 12 years rfl
        have u_6 := ad_o (12 * years) months
        exact by omega
      have h_4 : 0 ≤ (((12 * years) + months) : Int32).toInt ∧ (((12 * years) + months) : Int32).toInt ≤ 2000 := by
        have u_1 := rg_e day
        have k_2 : (12 : Int32).toInt = 12 := rfl
        have u_3 := rg_e years
        have u_5 := rg_e months
        have u_7 := rg_e (m_X8_isIn day 0 120000)
        have k_8 : (0 : Int32).toInt = 0 := rfl
        have v_9 := cv_ne c_1
        have k_10 : (120000 : Int32).toInt = 120000 := rfl
        have v_11 := is_t c_1
        have u_12 := rg_e (m_X8_isTerm years months)
        have v_13 := cv_ne c_2
        have v_14 := tm_t c_2
        have u_4 := mu_o 12 12 years rfl
        have u_6 := ad_o (12 * years) months
        exact by omega
      refine mm_callSi (n := 2) (As := [.int day, .int ((12 * years) + months)]) (rest := []) (r := (m_X8_add day ((12 * years) + months))) (q2 := (mq_i q 0 0 0)) ⟨hx, hb, hml, hown, hts⟩ (c_X8_add l D b0 Pc cA ad (mq_i q 0 0 0) day ((12 * years) + months) h_3 h_4) gX8_later_X8_add rfl (by decide +kernel) rfl ⟨Nat.le_of_ble_eq_true rfl, Nat.le_of_ble_eq_true rfl⟩ ⟨Nat.le_of_ble_eq_true rfl, Nat.le_of_ble_eq_true rfl⟩ hK hW hS hl.1 rfl (Nat.le_of_ble_eq_true rfl) dX8_later_45 (fun H locs hW hS => ?_)
      exact mm_iret hx hb hr hlk hK hW hS (by rw [m_X8_later, if_neg c_1, if_neg c_2]) dX8_later_48
end
section
def m_X8_linkOf (q : qM) (i : Int32) : Int64 := (if i = 0 then (if (q.1 32 (Int32.toNatClampNeg (4 * i))) = 5 then (if (m_X8_isIn (q.1 32 (Int32.toNatClampNeg ((4 * i) + 1))) 0 ((q.1 12 0) - 1)) = 0 then (m_X8_linked (m_X8_linked (m_X8_linked (m_X8_linked (m_X8_linked 0 ((q.1 32 (Int32.toNatClampNeg ((4 * i) + 0))) : Int32).toInt64) ((q.1 32 (Int32.toNatClampNeg ((4 * i) + 1))) : Int32).toInt64) ((q.1 32 (Int32.toNatClampNeg ((4 * i) + 2))) : Int32).toInt64) ((q.1 32 (Int32.toNatClampNeg ((4 * i) + 3))) : Int32).toInt64) 0) else (m_X8_linked (m_X8_linked (m_X8_linked (m_X8_linked (m_X8_linked 0 ((q.1 32 (Int32.toNatClampNeg ((4 * i) + 0))) : Int32).toInt64) ((q.1 32 (Int32.toNatClampNeg ((4 * i) + 1))) : Int32).toInt64) ((q.1 32 (Int32.toNatClampNeg ((4 * i) + 2))) : Int32).toInt64) ((q.1 32 (Int32.toNatClampNeg ((4 * i) + 3))) : Int32).toInt64) (q.2 16 (Int32.toNatClampNeg (q.1 32 (Int32.toNatClampNeg ((4 * i) + 1))))))) else (if (q.1 32 (Int32.toNatClampNeg (4 * i))) = 11 then (if (m_X8_isIn (q.1 32 (Int32.toNatClampNeg ((4 * i) + 1))) 0 ((q.1 12 0) - 1)) = 0 then (m_X8_linked (m_X8_linked (m_X8_linked (m_X8_linked (m_X8_linked 0 ((q.1 32 (Int32.toNatClampNeg ((4 * i) + 0))) : Int32).toInt64) ((q.1 32 (Int32.toNatClampNeg ((4 * i) + 1))) : Int32).toInt64) ((q.1 32 (Int32.toNatClampNeg ((4 * i) + 2))) : Int32).toInt64) ((q.1 32 (Int32.toNatClampNeg ((4 * i) + 3))) : Int32).toInt64) 0) else (m_X8_linked (m_X8_linked (m_X8_linked (m_X8_linked (m_X8_linked 0 ((q.1 32 (Int32.toNatClampNeg ((4 * i) + 0))) : Int32).toInt64) ((q.1 32 (Int32.toNatClampNeg ((4 * i) + 1))) : Int32).toInt64) ((q.1 32 (Int32.toNatClampNeg ((4 * i) + 2))) : Int32).toInt64) ((q.1 32 (Int32.toNatClampNeg ((4 * i) + 3))) : Int32).toInt64) (q.2 16 (Int32.toNatClampNeg (q.1 32 (Int32.toNatClampNeg ((4 * i) + 1))))))) else (m_X8_linked (m_X8_linked (m_X8_linked (m_X8_linked 0 ((q.1 32 (Int32.toNatClampNeg ((4 * i) + 0))) : Int32).toInt64) ((q.1 32 (Int32.toNatClampNeg ((4 * i) + 1))) : Int32).toInt64) ((q.1 32 (Int32.toNatClampNeg ((4 * i) + 2))) : Int32).toInt64) ((q.1 32 (Int32.toNatClampNeg ((4 * i) + 3))) : Int32).toInt64))) else (if (q.1 32 (Int32.toNatClampNeg (4 * i))) = 5 then (if (m_X8_isIn (q.1 32 (Int32.toNatClampNeg ((4 * i) + 1))) 0 ((q.1 12 0) - 1)) = 0 then (m_X8_linked (m_X8_linked (m_X8_linked (m_X8_linked (m_X8_linked (q.2 33 (Int32.toNatClampNeg (i - 1))) ((q.1 32 (Int32.toNatClampNeg ((4 * i) + 0))) : Int32).toInt64) ((q.1 32 (Int32.toNatClampNeg ((4 * i) + 1))) : Int32).toInt64) ((q.1 32 (Int32.toNatClampNeg ((4 * i) + 2))) : Int32).toInt64) ((q.1 32 (Int32.toNatClampNeg ((4 * i) + 3))) : Int32).toInt64) 0) else (m_X8_linked (m_X8_linked (m_X8_linked (m_X8_linked (m_X8_linked (q.2 33 (Int32.toNatClampNeg (i - 1))) ((q.1 32 (Int32.toNatClampNeg ((4 * i) + 0))) : Int32).toInt64) ((q.1 32 (Int32.toNatClampNeg ((4 * i) + 1))) : Int32).toInt64) ((q.1 32 (Int32.toNatClampNeg ((4 * i) + 2))) : Int32).toInt64) ((q.1 32 (Int32.toNatClampNeg ((4 * i) + 3))) : Int32).toInt64) (q.2 16 (Int32.toNatClampNeg (q.1 32 (Int32.toNatClampNeg ((4 * i) + 1))))))) else (if (q.1 32 (Int32.toNatClampNeg (4 * i))) = 11 then (if (m_X8_isIn (q.1 32 (Int32.toNatClampNeg ((4 * i) + 1))) 0 ((q.1 12 0) - 1)) = 0 then (m_X8_linked (m_X8_linked (m_X8_linked (m_X8_linked (m_X8_linked (q.2 33 (Int32.toNatClampNeg (i - 1))) ((q.1 32 (Int32.toNatClampNeg ((4 * i) + 0))) : Int32).toInt64) ((q.1 32 (Int32.toNatClampNeg ((4 * i) + 1))) : Int32).toInt64) ((q.1 32 (Int32.toNatClampNeg ((4 * i) + 2))) : Int32).toInt64) ((q.1 32 (Int32.toNatClampNeg ((4 * i) + 3))) : Int32).toInt64) 0) else (m_X8_linked (m_X8_linked (m_X8_linked (m_X8_linked (m_X8_linked (q.2 33 (Int32.toNatClampNeg (i - 1))) ((q.1 32 (Int32.toNatClampNeg ((4 * i) + 0))) : Int32).toInt64) ((q.1 32 (Int32.toNatClampNeg ((4 * i) + 1))) : Int32).toInt64) ((q.1 32 (Int32.toNatClampNeg ((4 * i) + 2))) : Int32).toInt64) ((q.1 32 (Int32.toNatClampNeg ((4 * i) + 3))) : Int32).toInt64) (q.2 16 (Int32.toNatClampNeg (q.1 32 (Int32.toNatClampNeg ((4 * i) + 1))))))) else (m_X8_linked (m_X8_linked (m_X8_linked (m_X8_linked (q.2 33 (Int32.toNatClampNeg (i - 1))) ((q.1 32 (Int32.toNatClampNeg ((4 * i) + 0))) : Int32).toInt64) ((q.1 32 (Int32.toNatClampNeg ((4 * i) + 1))) : Int32).toInt64) ((q.1 32 (Int32.toNatClampNeg ((4 * i) + 2))) : Int32).toInt64) ((q.1 32 (Int32.toNatClampNeg ((4 * i) + 3))) : Int32).toInt64))))
set_option maxHeartbeats 4000000 in
set_option maxRecDepth 100000 in
theorem c_X8_linkOf (l : Launch) (D : va_G) (b0 : Nat) (Pc : Nat → Nat → Option va_E) (cA : Nat → ClassId) (ad : Nat → Nat → Nat) (q : qM) (i : Int32) (hi : 0 ≤ (i : Int32).toInt ∧ (i : Int32).toInt ≤ 399) (hrc : 0 ≤ (q.1 12 0).toInt ∧ (q.1 12 0).toInt ≤ 64) : mc_l l yX8_linkOf wsX8_linkOf 1 25 D b0 Pc cA ad q [.ref (ad 20 0), .int i] (m_X8_linkOf q i, q) := by
  refine mc_of (by decide) rfl (Nat.le_of_ble_eq_true rfl) ?_
  intro p e s m below meth c hx hb hml hr hlk hown hts hK hW ls hl
  have hown : s.vm.findClass RX8 = some m.cls := hown
  have hS : va_S (wA b0) s.heap s.heap [] := va_S.rf
  have hl : lv_has ls 6 [(0, .ref (ad 20 0)), (1, .int i)] := hl
  have hin : ∀ w ∈ wsX80, w ∈ wsX8_linkOf := fun w h => List.mem_cons_of_mem _ (List.mem_append_right _ h)
  refine lv_iload_n hx hb dX8_linkOf_0 rfl (lv_at hl 1 rfl) ?_
  refine lv_if_ne (tgt := 8) hx hb dX8_linkOf_1 (by decide) (fun c_1 => ?_) (fun c_1 => ?_)
  · refine lv_aload_n hx hb dX8_linkOf_8 rfl (lv_at hl 0 rfl) ?_
    refine mm_get (v := .ref (ad 21 33)) hx hb hts hin hown hK hW 33 (by decide) (List.mem_of_getElem? (i := 1) rfl) rfl rfl dX8_linkOf_9 ?_
    refine lv_iload_n hx hb dX8_linkOf_12 rfl (lv_at hl 1 rfl) ?_
    refine lv_iconst (v := 1) hx hb dX8_linkOf_13 (by decide) ?_
    refine lv_isub hx hb dX8_linkOf_14 ?_
    have b_2 : vp_in (i - 1) 400 := by
      have u_1 := rg_e i
      have k_2 : (1 : Int32).toInt = 1 := rfl
      have k_4 : (0 : Int32).toInt = 0 := rfl
      have v_5 := cv_ne c_1
      have w_6 := hi
      have w_7 := hrc
      have u_3 := su_o i 1
      exact vp_in_iff.mpr (by omega)
    refine mm_lald (v := (q.2 33 (Int32.toNatClampNeg (i - 1)))) hx hb hK hW 33 400 rfl b_2 ((rfl)) dX8_linkOf_15 ?_
    refine lv_lstore_n (lv' := [(2, .long (q.2 33 (Int32.toNatClampNeg (i - 1)))), (0, .ref (ad 20 0)), (1, .int i)]) hx hb dX8_linkOf_16 rfl hl (by decide) rfl (fun ls hl => ?_)
    refine lv_iconst (v := 0) hx hb dX8_linkOf_17 (by decide) ?_
    refine lv_istore (lv' := [(4, .int 0), (2, .long (q.2 33 (Int32.toNatClampNeg (i - 1)))), (0, .ref (ad 20 0)), (1, .int i)]) hx hb dX8_linkOf_18 hl (by decide) rfl (fun ls hl => ?_)
    refine lv_iload hx hb dX8_linkOf_20 (lv_at hl 0 rfl) ?_
    refine lv_iconst (v := 4) hx hb dX8_linkOf_22 (by decide) ?_
    refine lv_icmp_ge (tgt := 49) hx hb dX8_linkOf_23 (by decide) (fun h => absurd h (by decide)) (fun _ => ?_)
    refine lv_lload_n hx hb dX8_linkOf_26 rfl (lv_at hl 1 rfl) ?_
    refine lv_aload_n hx hb dX8_linkOf_27 rfl (lv_at hl 2 rfl) ?_
    refine mm_get (v := .ref (ad 21 32)) hx hb hts hin hown hK hW 32 (by decide) (List.mem_of_getElem? (i := 2) rfl) rfl rfl dX8_linkOf_28 ?_
    refine lv_iconst (v := 4) hx hb dX8_linkOf_31 (by decide) ?_
    refine lv_iload_n hx hb dX8_linkOf_32 rfl (lv_at hl 3 rfl) ?_
    refine lv_imul hx hb dX8_linkOf_33 ?_
    refine lv_iload hx hb dX8_linkOf_34 (lv_at hl 0 rfl) ?_
    refine lv_iadd hx hb dX8_linkOf_36 ?_
    have b_3 : vp_in ((4 * i) + 0) 1600 := by
      have k_1 : (4 : Int32).toInt = 4 := rfl
      have u_2 := rg_e i
      have k_4 : (0 : Int32).toInt = 0 := rfl
      have v_6 := cv_ne c_1
      have w_7 := hi
      have w_8 := hrc
      have u_3 := mu_o 4 4 i rfl
      have u_5 := ad_o (4 * i) 0
      exact vp_in_iff.mpr (by omega)
    refine mm_iald (v := (q.1 32 (Int32.toNatClampNeg ((4 * i) + 0)))) hx hb hK hW 32 1600 rfl b_3 ((rfl)) dX8_linkOf_37 ?_
    refine lv_i2l (v := ((q.1 32 (Int32.toNatClampNeg ((4 * i) + 0))) : Int32).toInt64) hx hb dX8_linkOf_38 rfl ?_
    refine mm_callSl (n := 2) (As := [.long (q.2 33 (Int32.toNatClampNeg (i - 1))), .long ((q.1 32 (Int32.toNatClampNeg ((4 * i) + 0))) : Int32).toInt64]) (rest := []) (r := (m_X8_linked (q.2 33 (Int32.toNatClampNeg (i - 1))) ((q.1 32 (Int32.toNatClampNeg ((4 * i) + 0))) : Int32).toInt64)) (q2 := q) ⟨hx, hb, hml, hown, hts⟩ (c_X8_linked l D b0 Pc cA ad q (q.2 33 (Int32.toNatClampNeg (i - 1))) ((q.1 32 (Int32.toNatClampNeg ((4 * i) + 0))) : Int32).toInt64) gX8_linkOf_X8_linked rfl (by decide +kernel) rfl ⟨Nat.le_of_ble_eq_true rfl, Nat.le_of_ble_eq_true rfl⟩ ⟨Nat.le_of_ble_eq_true rfl, Nat.le_of_ble_eq_true rfl⟩ hK hW hS hl.1 rfl (Nat.le_of_ble_eq_true rfl) dX8_linkOf_39 (fun H locs hW hS => ?_)
    refine lv_lstore_n (lv' := [(2, .long (m_X8_linked (q.2 33 (Int32.toNatClampNeg (i - 1))) ((q.1 32 (Int32.toNatClampNeg ((4 * i) + 0))) : Int32).toInt64)), (4, .int 0), (0, .ref (ad 20 0)), (1, .int i)]) hx hb dX8_linkOf_42 rfl hl (by decide) rfl (fun ls hl => ?_)
    refine lv_iinc (v := 1) (lv' := [(4, .int 1), (2, .long (m_X8_linked (q.2 33 (Int32.toNatClampNeg (i - 1))) ((q.1 32 (Int32.toNatClampNeg ((4 * i) + 0))) : Int32).toInt64)), (0, .ref (ad 20 0)), (1, .int i)]) hx hb dX8_linkOf_43 hl (k := 1) rfl (by first | rfl | decide) (by decide) rfl (fun ls hl => ?_)
    refine lv_goto (tgt := 20) hx hb dX8_linkOf_46 (by decide) ?_
    refine lv_iload hx hb dX8_linkOf_20 (lv_at hl 0 rfl) ?_
    refine lv_iconst (v := 4) hx hb dX8_linkOf_22 (by decide) ?_
    refine lv_icmp_ge (tgt := 49) hx hb dX8_linkOf_23 (by decide) (fun h => absurd h (by decide)) (fun _ => ?_)
    refine lv_lload_n hx hb dX8_linkOf_26 rfl (lv_at hl 1 rfl) ?_
    refine lv_aload_n hx hb dX8_linkOf_27 rfl (lv_at hl 2 rfl) ?_
    refine mm_get (v := .ref (ad 21 32)) hx hb hts hin hown hK hW 32 (by decide) (List.mem_of_getElem? (i := 2) rfl) rfl rfl dX8_linkOf_28 ?_
    refine lv_iconst (v := 4) hx hb dX8_linkOf_31 (by decide) ?_
    refine lv_iload_n hx hb dX8_linkOf_32 rfl (lv_at hl 3 rfl) ?_
    refine lv_imul hx hb dX8_linkOf_33 ?_
    refine lv_iload hx hb dX8_linkOf_34 (lv_at hl 0 rfl) ?_
    refine lv_iadd hx hb dX8_linkOf_36 ?_
    have b_4 : vp_in ((4 * i) + 1) 1600 := by
      have k_1 : (4 : Int32).toInt = 4 := rfl
      have u_2 := rg_e i
      have k_4 : (1 : Int32).toInt = 1 := rfl
      have k_6 : (0 : Int32).toInt = 0 := rfl
      have v_7 := cv_ne c_1
      have w_8 := hi
      have w_9 := hrc
      have u_3 := mu_o 4 4 i rfl
      have u_5 := ad_o (4 * i) 1
      exact vp_in_iff.mpr (by omega)
    refine mm_iald (v := (q.1 32 (Int32.toNatClampNeg ((4 * i) + 1)))) hx hb hK hW 32 1600 rfl b_4 ((rfl)) dX8_linkOf_37 ?_
    refine lv_i2l (v := ((q.1 32 (Int32.toNatClampNeg ((4 * i) + 1))) : Int32).toInt64) hx hb dX8_linkOf_38 rfl ?_
    refine mm_callSl (n := 2) (As := [.long (m_X8_linked (q.2 33 (Int32.toNatClampNeg (i - 1))) ((q.1 32 (Int32.toNatClampNeg ((4 * i) + 0))) : Int32).toInt64), .long ((q.1 32 (Int32.toNatClampNeg ((4 * i) + 1))) : Int32).toInt64]) (rest := []) (r := (m_X8_linked (m_X8_linked (q.2 33 (Int32.toNatClampNeg (i - 1))) ((q.1 32 (Int32.toNatClampNeg ((4 * i) + 0))) : Int32).toInt64) ((q.1 32 (Int32.toNatClampNeg ((4 * i) + 1))) : Int32).toInt64)) (q2 := q) ⟨hx, hb, hml, hown, hts⟩ (c_X8_linked l D b0 Pc cA ad q (m_X8_linked (q.2 33 (Int32.toNatClampNeg (i - 1))) ((q.1 32 (Int32.toNatClampNeg ((4 * i) + 0))) : Int32).toInt64) ((q.1 32 (Int32.toNatClampNeg ((4 * i) + 1))) : Int32).toInt64) gX8_linkOf_X8_linked rfl (by decide +kernel) rfl ⟨Nat.le_of_ble_eq_true rfl, Nat.le_of_ble_eq_true rfl⟩ ⟨Nat.le_of_ble_eq_true rfl, Nat.le_of_ble_eq_true rfl⟩ hK hW hS hl.1 rfl (Nat.le_of_ble_eq_true rfl) dX8_linkOf_39 (fun H locs hW hS => ?_)
    refine lv_lstore_n (lv' := [(2, .long (m_X8_linked (m_X8_linked (q.2 33 (Int32.toNatClampNeg (i - 1))) ((q.1 32 (Int32.toNatClampNeg ((4 * i) + 0))) : Int32).toInt64) ((q.1 32 (Int32.toNatClampNeg ((4 * i) + 1))) : Int32).toInt64)), (4, .int 1), (0, .ref (ad 20 0)), (1, .int i)]) hx hb dX8_linkOf_42 rfl hl (by decide) rfl (fun ls hl => ?_)
    refine lv_iinc (v := 2) (lv' := [(4, .int 2), (2, .long (m_X8_linked (m_X8_linked (q.2 33 (Int32.toNatClampNeg (i - 1))) ((q.1 32 (Int32.toNatClampNeg ((4 * i) + 0))) : Int32).toInt64) ((q.1 32 (Int32.toNatClampNeg ((4 * i) + 1))) : Int32).toInt64)), (0, .ref (ad 20 0)), (1, .int i)]) hx hb dX8_linkOf_43 hl (k := 1) rfl (by first | rfl | decide) (by decide) rfl (fun ls hl => ?_)
    refine lv_goto (tgt := 20) hx hb dX8_linkOf_46 (by decide) ?_
    refine lv_iload hx hb dX8_linkOf_20 (lv_at hl 0 rfl) ?_
    refine lv_iconst (v := 4) hx hb dX8_linkOf_22 (by decide) ?_
    refine lv_icmp_ge (tgt := 49) hx hb dX8_linkOf_23 (by decide) (fun h => absurd h (by decide)) (fun _ => ?_)
    refine lv_lload_n hx hb dX8_linkOf_26 rfl (lv_at hl 1 rfl) ?_
    refine lv_aload_n hx hb dX8_linkOf_27 rfl (lv_at hl 2 rfl) ?_
    refine mm_get (v := .ref (ad 21 32)) hx hb hts hin hown hK hW 32 (by decide) (List.mem_of_getElem? (i := 2) rfl) rfl rfl dX8_linkOf_28 ?_
    refine lv_iconst (v := 4) hx hb dX8_linkOf_31 (by decide) ?_
    refine lv_iload_n hx hb dX8_linkOf_32 rfl (lv_at hl 3 rfl) ?_
    refine lv_imul hx hb dX8_linkOf_33 ?_
    refine lv_iload hx hb dX8_linkOf_34 (lv_at hl 0 rfl) ?_
    refine lv_iadd hx hb dX8_linkOf_36 ?_
    have b_5 : vp_in ((4 * i) + 2) 1600 := by
      have k_1 : (4 : Int32).toInt = 4 := rfl
      have u_2 := rg_e i
      have k_4 : (2 : Int32).toInt = 2 := rfl
      have k_6 : (0 : Int32).toInt = 0 := rfl
      have v_7 := cv_ne c_1
      have w_8 := hi
      have w_9 := hrc
      have u_3 := mu_o 4 4 i rfl
      have u_5 := ad_o (4 * i) 2
      exact vp_in_iff.mpr (by omega)
    refine mm_iald (v := (q.1 32 (Int32.toNatClampNeg ((4 * i) + 2)))) hx hb hK hW 32 1600 rfl b_5 ((rfl)) dX8_linkOf_37 ?_
    refine lv_i2l (v := ((q.1 32 (Int32.toNatClampNeg ((4 * i) + 2))) : Int32).toInt64) hx hb dX8_linkOf_38 rfl ?_
    refine mm_callSl (n := 2) (As := [.long (m_X8_linked (m_X8_linked (q.2 33 (Int32.toNatClampNeg (i - 1))) ((q.1 32 (Int32.toNatClampNeg ((4 * i) + 0))) : Int32).toInt64) ((q.1 32 (Int32.toNatClampNeg ((4 * i) + 1))) : Int32).toInt64), .long ((q.1 32 (Int32.toNatClampNeg ((4 * i) + 2))) : Int32).toInt64]) (rest := []) (r := (m_X8_linked (m_X8_linked (m_X8_linked (q.2 33 (Int32.toNatClampNeg (i - 1))) ((q.1 32 (Int32.toNatClampNeg ((4 * i) + 0))) : Int32).toInt64) ((q.1 32 (Int32.toNatClampNeg ((4 * i) + 1))) : Int32).toInt64) ((q.1 32 (Int32.toNatClampNeg ((4 * i) + 2))) : Int32).toInt64)) (q2 := q) ⟨hx, hb, hml, hown, hts⟩ (c_X8_linked l D b0 Pc cA ad q (m_X8_linked (m_X8_linked (q.2 33 (Int32.toNatClampNeg (i - 1))) ((q.1 32 (Int32.toNatClampNeg ((4 * i) + 0))) : Int32).toInt64) ((q.1 32 (Int32.toNatClampNeg ((4 * i) + 1))) : Int32).toInt64) ((q.1 32 (Int32.toNatClampNeg ((4 * i) + 2))) : Int32).toInt64) gX8_linkOf_X8_linked rfl (by decide +kernel) rfl ⟨Nat.le_of_ble_eq_true rfl, Nat.le_of_ble_eq_true rfl⟩ ⟨Nat.le_of_ble_eq_true rfl, Nat.le_of_ble_eq_true rfl⟩ hK hW hS hl.1 rfl (Nat.le_of_ble_eq_true rfl) dX8_linkOf_39 (fun H locs hW hS => ?_)
    refine lv_lstore_n (lv' := [(2, .long (m_X8_linked (m_X8_linked (m_X8_linked (q.2 33 (Int32.toNatClampNeg (i - 1))) ((q.1 32 (Int32.toNatClampNeg ((4 * i) + 0))) : Int32).toInt64) ((q.1 32 (Int32.toNatClampNeg ((4 * i) + 1))) : Int32).toInt64) ((q.1 32 (Int32.toNatClampNeg ((4 * i) + 2))) : Int32).toInt64)), (4, .int 2), (0, .ref (ad 20 0)), (1, .int i)]) hx hb dX8_linkOf_42 rfl hl (by decide) rfl (fun ls hl => ?_)
    refine lv_iinc (v := 3) (lv' := [(4, .int 3), (2, .long (m_X8_linked (m_X8_linked (m_X8_linked (q.2 33 (Int32.toNatClampNeg (i - 1))) ((q.1 32 (Int32.toNatClampNeg ((4 * i) + 0))) : Int32).toInt64) ((q.1 32 (Int32.toNatClampNeg ((4 * i) + 1))) : Int32).toInt64) ((q.1 32 (Int32.toNatClampNeg ((4 * i) + 2))) : Int32).toInt64)), (0, .ref (ad 20 0)), (1, .int i)]) hx hb dX8_linkOf_43 hl (k := 1) rfl (by first | rfl | decide) (by decide) rfl (fun ls hl => ?_)
    refine lv_goto (tgt := 20) hx hb dX8_linkOf_46 (by decide) ?_
    refine lv_iload hx hb dX8_linkOf_20 (lv_at hl 0 rfl) ?_
    refine lv_iconst (v := 4) hx hb dX8_linkOf_22 (by decide) ?_
    refine lv_icmp_ge (tgt := 49) hx hb dX8_linkOf_23 (by decide) (fun h => absurd h (by decide)) (fun _ => ?_)
    refine lv_lload_n hx hb dX8_linkOf_26 rfl (lv_at hl 1 rfl) ?_
    refine lv_aload_n hx hb dX8_linkOf_27 rfl (lv_at hl 2 rfl) ?_
    refine mm_get (v := .ref (ad 21 32)) hx hb hts hin hown hK hW 32 (by decide) (List.mem_of_getElem? (i := 2) rfl) rfl rfl dX8_linkOf_28 ?_
    refine lv_iconst (v := 4) hx hb dX8_linkOf_31 (by decide) ?_
    refine lv_iload_n hx hb dX8_linkOf_32 rfl (lv_at hl 3 rfl) ?_
    refine lv_imul hx hb dX8_linkOf_33 ?_
    refine lv_iload hx hb dX8_linkOf_34 (lv_at hl 0 rfl) ?_
    refine lv_iadd hx hb dX8_linkOf_36 ?_
    have b_6 : vp_in ((4 * i) + 3) 1600 := by
      have k_1 : (4 : Int32).toInt = 4 := rfl
      have u_2 := rg_e i
      have k_4 : (3 : Int32).toInt = 3 := rfl
      have k_6 : (0 : Int32).toInt = 0 := rfl
      have v_7 := cv_ne c_1
      have w_8 := hi
      have w_9 := hrc
      have u_3 := mu_o 4 4 i rfl
      have u_5 := ad_o (4 * i) 3
      exact vp_in_iff.mpr (by omega)
    refine mm_iald (v := (q.1 32 (Int32.toNatClampNeg ((4 * i) + 3)))) hx hb hK hW 32 1600 rfl b_6 ((rfl)) dX8_linkOf_37 ?_
    refine lv_i2l (v := ((q.1 32 (Int32.toNatClampNeg ((4 * i) + 3))) : Int32).toInt64) hx hb dX8_linkOf_38 rfl ?_
    refine mm_callSl (n := 2) (As := [.long (m_X8_linked (m_X8_linked (m_X8_linked (q.2 33 (Int32.toNatClampNeg (i - 1))) ((q.1 32 (Int32.toNatClampNeg ((4 * i) + 0))) : Int32).toInt64) ((q.1 32 (Int32.toNatClampNeg ((4 * i) + 1))) : Int32).toInt64) ((q.1 32 (Int32.toNatClampNeg ((4 * i) + 2))) : Int32).toInt64), .long ((q.1 32 (Int32.toNatClampNeg ((4 * i) + 3))) : Int32).toInt64]) (rest := []) (r := (m_X8_linked (m_X8_linked (m_X8_linked (m_X8_linked (q.2 33 (Int32.toNatClampNeg (i - 1))) ((q.1 32 (Int32.toNatClampNeg ((4 * i) + 0))) : Int32).toInt64) ((q.1 32 (Int32.toNatClampNeg ((4 * i) + 1))) : Int32).toInt64) ((q.1 32 (Int32.toNatClampNeg ((4 * i) + 2))) : Int32).toInt64) ((q.1 32 (Int32.toNatClampNeg ((4 * i) + 3))) : Int32).toInt64)) (q2 := q) ⟨hx, hb, hml, hown, hts⟩ (c_X8_linked l D b0 Pc cA ad q (m_X8_linked (m_X8_linked (m_X8_linked (q.2 33 (Int32.toNatClampNeg (i - 1))) ((q.1 32 (Int32.toNatClampNeg ((4 * i) + 0))) : Int32).toInt64) ((q.1 32 (Int32.toNatClampNeg ((4 * i) + 1))) : Int32).toInt64) ((q.1 32 (Int32.toNatClampNeg ((4 * i) + 2))) : Int32).toInt64) ((q.1 32 (Int32.toNatClampNeg ((4 * i) + 3))) : Int32).toInt64) gX8_linkOf_X8_linked rfl (by decide +kernel) rfl ⟨Nat.le_of_ble_eq_true rfl, Nat.le_of_ble_eq_true rfl⟩ ⟨Nat.le_of_ble_eq_true rfl, Nat.le_of_ble_eq_true rfl⟩ hK hW hS hl.1 rfl (Nat.le_of_ble_eq_true rfl) dX8_linkOf_39 (fun H locs hW hS => ?_)
    refine lv_lstore_n (lv' := [(2, .long (m_X8_linked (m_X8_linked (m_X8_linked (m_X8_linked (q.2 33 (Int32.toNatClampNeg (i - 1))) ((q.1 32 (Int32.toNatClampNeg ((4 * i) + 0))) : Int32).toInt64) ((q.1 32 (Int32.toNatClampNeg ((4 * i) + 1))) : Int32).toInt64) ((q.1 32 (Int32.toNatClampNeg ((4 * i) + 2))) : Int32).toInt64) ((q.1 32 (Int32.toNatClampNeg ((4 * i) + 3))) : Int32).toInt64)), (4, .int 3), (0, .ref (ad 20 0)), (1, .int i)]) hx hb dX8_linkOf_42 rfl hl (by decide) rfl (fun ls hl => ?_)
    refine lv_iinc (v := 4) (lv' := [(4, .int 4), (2, .long (m_X8_linked (m_X8_linked (m_X8_linked (m_X8_linked (q.2 33 (Int32.toNatClampNeg (i - 1))) ((q.1 32 (Int32.toNatClampNeg ((4 * i) + 0))) : Int32).toInt64) ((q.1 32 (Int32.toNatClampNeg ((4 * i) + 1))) : Int32).toInt64) ((q.1 32 (Int32.toNatClampNeg ((4 * i) + 2))) : Int32).toInt64) ((q.1 32 (Int32.toNatClampNeg ((4 * i) + 3))) : Int32).toInt64)), (0, .ref (ad 20 0)), (1, .int i)]) hx hb dX8_linkOf_43 hl (k := 1) rfl (by first | rfl | decide) (by decide) rfl (fun ls hl => ?_)
    refine lv_goto (tgt := 20) hx hb dX8_linkOf_46 (by decide) ?_
    refine lv_iload hx hb dX8_linkOf_20 (lv_at hl 0 rfl) ?_
    refine lv_iconst (v := 4) hx hb dX8_linkOf_22 (by decide) ?_
    refine lv_icmp_ge (tgt := 49) hx hb dX8_linkOf_23 (by decide) (fun _ => ?_) (fun h => absurd h (by decide))
    refine lv_aload_n hx hb dX8_linkOf_49 rfl (lv_at hl 2 rfl) ?_
    refine mm_get (v := .ref (ad 21 32)) hx hb hts hin hown hK hW 32 (by decide) (List.mem_of_getElem? (i := 2) rfl) rfl rfl dX8_linkOf_50 ?_
    refine lv_iconst (v := 4) hx hb dX8_linkOf_53 (by decide) ?_
    refine lv_iload_n hx hb dX8_linkOf_54 rfl (lv_at hl 3 rfl) ?_
    refine lv_imul hx hb dX8_linkOf_55 ?_
    have b_7 : vp_in (4 * i) 1600 := by
      have k_1 : (4 : Int32).toInt = 4 := rfl
      have u_2 := rg_e i
      have k_4 : (0 : Int32).toInt = 0 := rfl
      have v_5 := cv_ne c_1
      have w_6 := hi
      have w_7 := hrc
      have u_3 := mu_o 4 4 i rfl
      exact vp_in_iff.mpr (by omega)
    refine mm_iald (v := (q.1 32 (Int32.toNatClampNeg (4 * i)))) hx hb hK hW 32 1600 rfl b_7 ((rfl)) dX8_linkOf_56 ?_
    refine lv_istore (lv' := [(4, .int (q.1 32 (Int32.toNatClampNeg (4 * i)))), (2, .long (m_X8_linked (m_X8_linked (m_X8_linked (m_X8_linked (q.2 33 (Int32.toNatClampNeg (i - 1))) ((q.1 32 (Int32.toNatClampNeg ((4 * i) + 0))) : Int32).toInt64) ((q.1 32 (Int32.toNatClampNeg ((4 * i) + 1))) : Int32).toInt64) ((q.1 32 (Int32.toNatClampNeg ((4 * i) + 2))) : Int32).toInt64) ((q.1 32 (Int32.toNatClampNeg ((4 * i) + 3))) : Int32).toInt64)), (0, .ref (ad 20 0)), (1, .int i)]) hx hb dX8_linkOf_57 hl (by decide) rfl (fun ls hl => ?_)
    refine lv_aload_n hx hb dX8_linkOf_59 rfl (lv_at hl 2 rfl) ?_
    refine mm_get (v := .ref (ad 21 32)) hx hb hts hin hown hK hW 32 (by decide) (List.mem_of_getElem? (i := 2) rfl) rfl rfl dX8_linkOf_60 ?_
    refine lv_iconst (v := 4) hx hb dX8_linkOf_63 (by decide) ?_
    refine lv_iload_n hx hb dX8_linkOf_64 rfl (lv_at hl 3 rfl) ?_
    refine lv_imul hx hb dX8_linkOf_65 ?_
    refine lv_iconst (v := 1) hx hb dX8_linkOf_66 (by decide) ?_
    refine lv_iadd hx hb dX8_linkOf_67 ?_
    have b_8 : vp_in ((4 * i) + 1) 1600 := by
      have k_1 : (4 : Int32).toInt = 4 := rfl
      have u_2 := rg_e i
      have k_4 : (1 : Int32).toInt = 1 := rfl
      have k_6 : (0 : Int32).toInt = 0 := rfl
      have v_7 := cv_ne c_1
      have w_8 := hi
      have w_9 := hrc
      have u_3 := mu_o 4 4 i rfl
      have u_5 := ad_o (4 * i) 1
      exact vp_in_iff.mpr (by omega)
    refine mm_iald (v := (q.1 32 (Int32.toNatClampNeg ((4 * i) + 1)))) hx hb hK hW 32 1600 rfl b_8 ((rfl)) dX8_linkOf_68 ?_
    refine lv_istore (lv' := [(5, .int (q.1 32 (Int32.toNatClampNeg ((4 * i) + 1)))), (4, .int (q.1 32 (Int32.toNatClampNeg (4 * i)))), (2, .long (m_X8_linked (m_X8_linked (m_X8_linked (m_X8_linked (q.2 33 (Int32.toNatClampNeg (i - 1))) ((q.1 32 (Int32.toNatClampNeg ((4 * i) + 0))) : Int32).toInt64) ((q.1 32 (Int32.toNatClampNeg ((4 * i) + 1))) : Int32).toInt64) ((q.1 32 (Int32.toNatClampNeg ((4 * i) + 2))) : Int32).toInt64) ((q.1 32 (Int32.toNatClampNeg ((4 * i) + 3))) : Int32).toInt64)), (0, .ref (ad 20 0)), (1, .int i)]) hx hb dX8_linkOf_69 hl (by decide) rfl (fun ls hl => ?_)
    refine lv_iload hx hb dX8_linkOf_71 (lv_at hl 1 rfl) ?_
    refine lv_iconst (v := 5) hx hb dX8_linkOf_73 (by decide) ?_
    refine lv_icmp_eq (tgt := 84) hx hb dX8_linkOf_74 (by decide) (fun c_9 => ?_) (fun c_9 => ?_)
    · refine lv_lload_n hx hb dX8_linkOf_84 rfl (lv_at hl 2 rfl) ?_
      refine lv_iload hx hb dX8_linkOf_85 (lv_at hl 0 rfl) ?_
      refine lv_iconst (v := 0) hx hb dX8_linkOf_87 (by decide) ?_
      refine lv_aload_n hx hb dX8_linkOf_88 rfl (lv_at hl 3 rfl) ?_
      refine mm_gets (v := (q.1 12 0)) hx hb hts hin hown hK hW 12 (by decide) (List.mem_of_getElem? (i := 3) rfl) rfl rfl (rfl) dX8_linkOf_89 ?_
      refine lv_iconst (v := 1) hx hb dX8_linkOf_92 (by decide) ?_
      refine lv_isub hx hb dX8_linkOf_93 ?_
      refine mm_callSi (n := 3) (As := [.int (q.1 32 (Int32.toNatClampNeg ((4 * i) + 1))), .int 0, .int ((q.1 12 0) - 1)]) (rest := [.long (m_X8_linked (m_X8_linked (m_X8_linked (m_X8_linked (q.2 33 (Int32.toNatClampNeg (i - 1))) ((q.1 32 (Int32.toNatClampNeg ((4 * i) + 0))) : Int32).toInt64) ((q.1 32 (Int32.toNatClampNeg ((4 * i) + 1))) : Int32).toInt64) ((q.1 32 (Int32.toNatClampNeg ((4 * i) + 2))) : Int32).toInt64) ((q.1 32 (Int32.toNatClampNeg ((4 * i) + 3))) : Int32).toInt64)]) (r := (m_X8_isIn (q.1 32 (Int32.toNatClampNeg ((4 * i) + 1))) 0 ((q.1 12 0) - 1))) (q2 := q) ⟨hx, hb, hml, hown, hts⟩ (c_X8_isIn l D b0 Pc cA ad q (q.1 32 (Int32.toNatClampNeg ((4 * i) + 1))) 0 ((q.1 12 0) - 1)) gX8_linkOf_X8_isIn rfl (by decide +kernel) rfl ⟨Nat.le_of_ble_eq_true rfl, Nat.le_of_ble_eq_true rfl⟩ ⟨Nat.le_of_ble_eq_true rfl, Nat.le_of_ble_eq_true rfl⟩ hK hW hS hl.1 rfl (Nat.le_of_ble_eq_true rfl) dX8_linkOf_94 (fun H locs hW hS => ?_)
      refine lv_if_eq (tgt := 110) hx hb dX8_linkOf_97 (by decide) (fun c_10 => ?_) (fun c_10 => ?_)
      · refine lv_lconst (v := 0) hx hb dX8_linkOf_110 (by decide) ?_
        refine mm_callSl (n := 2) (As := [.long (m_X8_linked (m_X8_linked (m_X8_linked (m_X8_linked (q.2 33 (Int32.toNatClampNeg (i - 1))) ((q.1 32 (Int32.toNatClampNeg ((4 * i) + 0))) : Int32).toInt64) ((q.1 32 (Int32.toNatClampNeg ((4 * i) + 1))) : Int32).toInt64) ((q.1 32 (Int32.toNatClampNeg ((4 * i) + 2))) : Int32).toInt64) ((q.1 32 (Int32.toNatClampNeg ((4 * i) + 3))) : Int32).toInt64), .long 0]) (rest := []) (r := (m_X8_linked (m_X8_linked (m_X8_linked (m_X8_linked (m_X8_linked (q.2 33 (Int32.toNatClampNeg (i - 1))) ((q.1 32 (Int32.toNatClampNeg ((4 * i) + 0))) : Int32).toInt64) ((q.1 32 (Int32.toNatClampNeg ((4 * i) + 1))) : Int32).toInt64) ((q.1 32 (Int32.toNatClampNeg ((4 * i) + 2))) : Int32).toInt64) ((q.1 32 (Int32.toNatClampNeg ((4 * i) + 3))) : Int32).toInt64) 0)) (q2 := q) ⟨hx, hb, hml, hown, hts⟩ (c_X8_linked l D b0 Pc cA ad q (m_X8_linked (m_X8_linked (m_X8_linked (m_X8_linked (q.2 33 (Int32.toNatClampNeg (i - 1))) ((q.1 32 (Int32.toNatClampNeg ((4 * i) + 0))) : Int32).toInt64) ((q.1 32 (Int32.toNatClampNeg ((4 * i) + 1))) : Int32).toInt64) ((q.1 32 (Int32.toNatClampNeg ((4 * i) + 2))) : Int32).toInt64) ((q.1 32 (Int32.toNatClampNeg ((4 * i) + 3))) : Int32).toInt64) 0) gX8_linkOf_X8_linked rfl (by decide +kernel) rfl ⟨Nat.le_of_ble_eq_true rfl, Nat.le_of_ble_eq_true rfl⟩ ⟨Nat.le_of_ble_eq_true rfl, Nat.le_of_ble_eq_true rfl⟩ hK hW hS hl.1 rfl (Nat.le_of_ble_eq_true rfl) dX8_linkOf_111 (fun H locs hW hS => ?_)
        refine lv_goto (tgt := 118) hx hb dX8_linkOf_114 (by decide) ?_
        exact mm_lret hx hb hr hlk hK hW hS (by rw [m_X8_linkOf, if_neg c_1, if_pos c_9, if_pos c_10]) dX8_linkOf_118
      · refine lv_aload_n hx hb dX8_linkOf_100 rfl (lv_at hl 3 rfl) ?_
        refine mm_get (v := .ref (ad 21 16)) hx hb hts hin hown hK hW 16 (by decide) (List.mem_of_getElem? (i := 4) rfl) rfl rfl dX8_linkOf_101 ?_
        refine lv_iload hx hb dX8_linkOf_104 (lv_at hl 0 rfl) ?_
        have b_11 : vp_in (q.1 32 (Int32.toNatClampNeg ((4 * i) + 1))) 64 := by
          have k_1 : (4 : Int32).toInt = 4 := rfl
          have u_2 := rg_e i
          have k_4 : (1 : Int32).toInt = 1 := rfl
          have u_6 := rg_e (q.1 32 (Int32.toNatClampNeg ((4 * i) + 1)))
          have k_7 : (0 : Int32).toInt = 0 := rfl
          have v_8 := cv_ne c_1
          have u_9 := rg_e (q.1 32 (Int32.toNatClampNeg (4 * i)))
          have k_10 : (5 : Int32).toInt = 5 := rfl
          have v_11 := cv_eq c_9
          have u_12 := rg_e (m_X8_isIn (q.1 32 (Int32.toNatClampNeg ((4 * i) + 1))) 0 ((q.1 12 0) - 1))
          have v_13 := cv_ne c_10
          have u_14 := rg_e (q.1 12 0)
          have v_16 := is_t c_10
          have w_17 := hi
          have w_18 := hrc
          have u_3 := mu_o 4 4 i rfl
          have u_5 := ad_o (4 * i) 1
          have u_15 := su_o (q.1 12 0) 1
          exact vp_in_iff.mpr (by omega)
        refine mm_lald (v := (q.2 16 (Int32.toNatClampNeg (q.1 32 (Int32.toNatClampNeg ((4 * i) + 1)))))) hx hb hK hW 16 64 rfl b_11 ((rfl)) dX8_linkOf_106 ?_
        refine lv_goto (tgt := 111) hx hb dX8_linkOf_107 (by decide) ?_
        refine mm_callSl (n := 2) (As := [.long (m_X8_linked (m_X8_linked (m_X8_linked (m_X8_linked (q.2 33 (Int32.toNatClampNeg (i - 1))) ((q.1 32 (Int32.toNatClampNeg ((4 * i) + 0))) : Int32).toInt64) ((q.1 32 (Int32.toNatClampNeg ((4 * i) + 1))) : Int32).toInt64) ((q.1 32 (Int32.toNatClampNeg ((4 * i) + 2))) : Int32).toInt64) ((q.1 32 (Int32.toNatClampNeg ((4 * i) + 3))) : Int32).toInt64), .long (q.2 16 (Int32.toNatClampNeg (q.1 32 (Int32.toNatClampNeg ((4 * i) + 1)))))]) (rest := []) (r := (m_X8_linked (m_X8_linked (m_X8_linked (m_X8_linked (m_X8_linked (q.2 33 (Int32.toNatClampNeg (i - 1))) ((q.1 32 (Int32.toNatClampNeg ((4 * i) + 0))) : Int32).toInt64) ((q.1 32 (Int32.toNatClampNeg ((4 * i) + 1))) : Int32).toInt64) ((q.1 32 (Int32.toNatClampNeg ((4 * i) + 2))) : Int32).toInt64) ((q.1 32 (Int32.toNatClampNeg ((4 * i) + 3))) : Int32).toInt64) (q.2 16 (Int32.toNatClampNeg (q.1 32 (Int32.toNatClampNeg ((4 * i) + 1))))))) (q2 := q) ⟨hx, hb, hml, hown, hts⟩ (c_X8_linked l D b0 Pc cA ad q (m_X8_linked (m_X8_linked (m_X8_linked (m_X8_linked (q.2 33 (Int32.toNatClampNeg (i - 1))) ((q.1 32 (Int32.toNatClampNeg ((4 * i) + 0))) : Int32).toInt64) ((q.1 32 (Int32.toNatClampNeg ((4 * i) + 1))) : Int32).toInt64) ((q.1 32 (Int32.toNatClampNeg ((4 * i) + 2))) : Int32).toInt64) ((q.1 32 (Int32.toNatClampNeg ((4 * i) + 3))) : Int32).toInt64) (q.2 16 (Int32.toNatClampNeg (q.1 32 (Int32.toNatClampNeg ((4 * i) + 1)))))) gX8_linkOf_X8_linked rfl (by decide +kernel) rfl ⟨Nat.le_of_ble_eq_true rfl, Nat.le_of_ble_eq_true rfl⟩ ⟨Nat.le_of_ble_eq_true rfl, Nat.le_of_ble_eq_true rfl⟩ hK hW hS hl.1 rfl (Nat.le_of_ble_eq_true rfl) dX8_linkOf_111 (fun H locs hW hS => ?_)
        refine lv_goto (tgt := 118) hx hb dX8_linkOf_114 (by decide) ?_
        exact mm_lret hx hb hr hlk hK hW hS (by rw [m_X8_linkOf, if_neg c_1, if_pos c_9, if_neg c_10]) dX8_linkOf_118
    · refine lv_iload hx hb dX8_linkOf_77 (lv_at hl 1 rfl) ?_
      refine lv_bipush (v := 11) hx hb dX8_linkOf_79 (by decide) ?_
      refine lv_icmp_ne (tgt := 117) hx hb dX8_linkOf_81 (by decide) (fun c_12 => ?_) (fun c_12 => ?_)
      · refine lv_lload_n hx hb dX8_linkOf_117 rfl (lv_at hl 2 rfl) ?_
        exact mm_lret hx hb hr hlk hK hW hS (by rw [m_X8_linkOf, if_neg c_1, if_neg c_9, if_neg c_12]) dX8_linkOf_118
      · refine lv_lload_n hx hb dX8_linkOf_84 rfl (lv_at hl 2 rfl) ?_
        refine lv_iload hx hb dX8_linkOf_85 (lv_at hl 0 rfl) ?_
        refine lv_iconst (v := 0) hx hb dX8_linkOf_87 (by decide) ?_
        refine lv_aload_n hx hb dX8_linkOf_88 rfl (lv_at hl 3 rfl) ?_
        refine mm_gets (v := (q.1 12 0)) hx hb hts hin hown hK hW 12 (by decide) (List.mem_of_getElem? (i := 3) rfl) rfl rfl (rfl) dX8_linkOf_89 ?_
        refine lv_iconst (v := 1) hx hb dX8_linkOf_92 (by decide) ?_
        refine lv_isub hx hb dX8_linkOf_93 ?_
        refine mm_callSi (n := 3) (As := [.int (q.1 32 (Int32.toNatClampNeg ((4 * i) + 1))), .int 0, .int ((q.1 12 0) - 1)]) (rest := [.long (m_X8_linked (m_X8_linked (m_X8_linked (m_X8_linked (q.2 33 (Int32.toNatClampNeg (i - 1))) ((q.1 32 (Int32.toNatClampNeg ((4 * i) + 0))) : Int32).toInt64) ((q.1 32 (Int32.toNatClampNeg ((4 * i) + 1))) : Int32).toInt64) ((q.1 32 (Int32.toNatClampNeg ((4 * i) + 2))) : Int32).toInt64) ((q.1 32 (Int32.toNatClampNeg ((4 * i) + 3))) : Int32).toInt64)]) (r := (m_X8_isIn (q.1 32 (Int32.toNatClampNeg ((4 * i) + 1))) 0 ((q.1 12 0) - 1))) (q2 := q) ⟨hx, hb, hml, hown, hts⟩ (c_X8_isIn l D b0 Pc cA ad q (q.1 32 (Int32.toNatClampNeg ((4 * i) + 1))) 0 ((q.1 12 0) - 1)) gX8_linkOf_X8_isIn rfl (by decide +kernel) rfl ⟨Nat.le_of_ble_eq_true rfl, Nat.le_of_ble_eq_true rfl⟩ ⟨Nat.le_of_ble_eq_true rfl, Nat.le_of_ble_eq_true rfl⟩ hK hW hS hl.1 rfl (Nat.le_of_ble_eq_true rfl) dX8_linkOf_94 (fun H locs hW hS => ?_)
        refine lv_if_eq (tgt := 110) hx hb dX8_linkOf_97 (by decide) (fun c_13 => ?_) (fun c_13 => ?_)
        · refine lv_lconst (v := 0) hx hb dX8_linkOf_110 (by decide) ?_
          refine mm_callSl (n := 2) (As := [.long (m_X8_linked (m_X8_linked (m_X8_linked (m_X8_linked (q.2 33 (Int32.toNatClampNeg (i - 1))) ((q.1 32 (Int32.toNatClampNeg ((4 * i) + 0))) : Int32).toInt64) ((q.1 32 (Int32.toNatClampNeg ((4 * i) + 1))) : Int32).toInt64) ((q.1 32 (Int32.toNatClampNeg ((4 * i) + 2))) : Int32).toInt64) ((q.1 32 (Int32.toNatClampNeg ((4 * i) + 3))) : Int32).toInt64), .long 0]) (rest := []) (r := (m_X8_linked (m_X8_linked (m_X8_linked (m_X8_linked (m_X8_linked (q.2 33 (Int32.toNatClampNeg (i - 1))) ((q.1 32 (Int32.toNatClampNeg ((4 * i) + 0))) : Int32).toInt64) ((q.1 32 (Int32.toNatClampNeg ((4 * i) + 1))) : Int32).toInt64) ((q.1 32 (Int32.toNatClampNeg ((4 * i) + 2))) : Int32).toInt64) ((q.1 32 (Int32.toNatClampNeg ((4 * i) + 3))) : Int32).toInt64) 0)) (q2 := q) ⟨hx, hb, hml, hown, hts⟩ (c_X8_linked l D b0 Pc cA ad q (m_X8_linked (m_X8_linked (m_X8_linked (m_X8_linked (q.2 33 (Int32.toNatClampNeg (i - 1))) ((q.1 32 (Int32.toNatClampNeg ((4 * i) + 0))) : Int32).toInt64) ((q.1 32 (Int32.toNatClampNeg ((4 * i) + 1))) : Int32).toInt64) ((q.1 32 (Int32.toNatClampNeg ((4 * i) + 2))) : Int32).toInt64) ((q.1 32 (Int32.toNatClampNeg ((4 * i) + 3))) : Int32).toInt64) 0) gX8_linkOf_X8_linked rfl (by decide +kernel) rfl ⟨Nat.le_of_ble_eq_true rfl, Nat.le_of_ble_eq_true rfl⟩ ⟨Nat.le_of_ble_eq_true rfl, Nat.le_of_ble_eq_true rfl⟩ hK hW hS hl.1 rfl (Nat.le_of_ble_eq_true rfl) dX8_linkOf_111 (fun H locs hW hS => ?_)
          refine lv_goto (tgt := 118) hx hb dX8_linkOf_114 (by decide) ?_
          exact mm_lret hx hb hr hlk hK hW hS (by rw [m_X8_linkOf, if_neg c_1, if_neg c_9, if_pos c_12, if_pos c_13]) dX8_linkOf_118
        · refine lv_aload_n hx hb dX8_linkOf_100 rfl (lv_at hl 3 rfl) ?_
          refine mm_get (v := .ref (ad 21 16)) hx hb hts hin hown hK hW 16 (by decide) (List.mem_of_getElem? (i := 4) rfl) rfl rfl dX8_linkOf_101 ?_
          refine lv_iload hx hb dX8_linkOf_104 (lv_at hl 0 rfl) ?_
          have b_14 : vp_in (q.1 32 (Int32.toNatClampNeg ((4 * i) + 1))) 64 := by
            have k_1 : (4 : Int32).toInt = 4 := rfl
            have u_2 := rg_e i
            have k_4 : (1 : Int32).toInt = 1 := rfl
            have u_6 := rg_e (q.1 32 (Int32.toNatClampNeg ((4 * i) + 1)))
            have k_7 : (0 : Int32).toInt = 0 := rfl
            have v_8 := cv_ne c_1
            have u_9 := rg_e (q.1 32 (Int32.toNatClampNeg (4 * i)))
            have k_10 : (5 : Int32).toInt = 5 := rfl
            have v_11 := cv_ne c_9
            have k_12 : (11 : Int32).toInt = 11 := rfl
            have v_13 := cv_eq c_12
            have u_14 := rg_e (m_X8_isIn (q.1 32 (Int32.toNatClampNeg ((4 * i) + 1))) 0 ((q.1 12 0) - 1))
            have v_15 := cv_ne c_13
            have u_16 := rg_e (q.1 12 0)
            have v_18 := is_t c_13
            have w_19 := hi
            have w_20 := hrc
            have u_3 := mu_o 4 4 i rfl
            have u_5 := ad_o (4 * i) 1
            have u_17 := su_o (q.1 12 0) 1
            exact vp_in_iff.mpr (by omega)
          refine mm_lald (v := (q.2 16 (Int32.toNatClampNeg (q.1 32 (Int32.toNatClampNeg ((4 * i) + 1)))))) hx hb hK hW 16 64 rfl b_14 ((rfl)) dX8_linkOf_106 ?_
          refine lv_goto (tgt := 111) hx hb dX8_linkOf_107 (by decide) ?_
          refine mm_callSl (n := 2) (As := [.long (m_X8_linked (m_X8_linked (m_X8_linked (m_X8_linked (q.2 33 (Int32.toNatClampNeg (i - 1))) ((q.1 32 (Int32.toNatClampNeg ((4 * i) + 0))) : Int32).toInt64) ((q.1 32 (Int32.toNatClampNeg ((4 * i) + 1))) : Int32).toInt64) ((q.1 32 (Int32.toNatClampNeg ((4 * i) + 2))) : Int32).toInt64) ((q.1 32 (Int32.toNatClampNeg ((4 * i) + 3))) : Int32).toInt64), .long (q.2 16 (Int32.toNatClampNeg (q.1 32 (Int32.toNatClampNeg ((4 * i) + 1)))))]) (rest := []) (r := (m_X8_linked (m_X8_linked (m_X8_linked (m_X8_linked (m_X8_linked (q.2 33 (Int32.toNatClampNeg (i - 1))) ((q.1 32 (Int32.toNatClampNeg ((4 * i) + 0))) : Int32).toInt64) ((q.1 32 (Int32.toNatClampNeg ((4 * i) + 1))) : Int32).toInt64) ((q.1 32 (Int32.toNatClampNeg ((4 * i) + 2))) : Int32).toInt64) ((q.1 32 (Int32.toNatClampNeg ((4 * i) + 3))) : Int32).toInt64) (q.2 16 (Int32.toNatClampNeg (q.1 32 (Int32.toNatClampNeg ((4 * i) + 1))))))) (q2 := q) ⟨hx, hb, hml, hown, hts⟩ (c_X8_linked l D b0 Pc cA ad q (m_X8_linked (m_X8_linked (m_X8_linked (m_X8_linked (q.2 33 (Int32.toNatClampNeg (i - 1))) ((q.1 32 (Int32.toNatClampNeg ((4 * i) + 0))) : Int32).toInt64) ((q.1 32 (Int32.toNatClampNeg ((4 * i) + 1))) : Int32).toInt64) ((q.1 32 (Int32.toNatClampNeg ((4 * i) + 2))) : Int32).toInt64) ((q.1 32 (Int32.toNatClampNeg ((4 * i) + 3))) : Int32).toInt64) (q.2 16 (Int32.toNatClampNeg (q.1 32 (Int32.toNatClampNeg ((4 * i) + 1)))))) gX8_linkOf_X8_linked rfl (by decide +kernel) rfl ⟨Nat.le_of_ble_eq_true rfl, Nat.le_of_ble_eq_true rfl⟩ ⟨Nat.le_of_ble_eq_true rfl, Nat.le_of_ble_eq_true rfl⟩ hK hW hS hl.1 rfl (Nat.le_of_ble_eq_true rfl) dX8_linkOf_111 (fun H locs hW hS => ?_)
          refine lv_goto (tgt := 118) hx hb dX8_linkOf_114 (by decide) ?_
          exact mm_lret hx hb hr hlk hK hW hS (by rw [m_X8_linkOf, if_neg c_1, if_neg c_9, if_pos c_12, if_neg c_13]) dX8_linkOf_118
  · refine lv_lconst (v := 0) hx hb dX8_linkOf_4 (by decide) ?_
    refine lv_goto (tgt := 16) hx hb dX8_linkOf_5 (by decide) ?_
    refine lv_lstore_n (lv' := [(2, .long 0), (0, .ref (ad 20 0)), (1, .int i)]) hx hb dX8_linkOf_16 rfl hl (by decide) rfl (fun ls hl => ?_)
    refine lv_iconst (v := 0) hx hb dX8_linkOf_17 (by decide) ?_
    refine lv_istore (lv' := [(4, .int 0), (2, .long 0), (0, .ref (ad 20 0)), (1, .int i)]) hx hb dX8_linkOf_18 hl (by decide) rfl (fun ls hl => ?_)
    refine lv_iload hx hb dX8_linkOf_20 (lv_at hl 0 rfl) ?_
    refine lv_iconst (v := 4) hx hb dX8_linkOf_22 (by decide) ?_
    refine lv_icmp_ge (tgt := 49) hx hb dX8_linkOf_23 (by decide) (fun h => absurd h (by decide)) (fun _ => ?_)
    refine lv_lload_n hx hb dX8_linkOf_26 rfl (lv_at hl 1 rfl) ?_
    refine lv_aload_n hx hb dX8_linkOf_27 rfl (lv_at hl 2 rfl) ?_
    refine mm_get (v := .ref (ad 21 32)) hx hb hts hin hown hK hW 32 (by decide) (List.mem_of_getElem? (i := 2) rfl) rfl rfl dX8_linkOf_28 ?_
    refine lv_iconst (v := 4) hx hb dX8_linkOf_31 (by decide) ?_
    refine lv_iload_n hx hb dX8_linkOf_32 rfl (lv_at hl 3 rfl) ?_
    refine lv_imul hx hb dX8_linkOf_33 ?_
    refine lv_iload hx hb dX8_linkOf_34 (lv_at hl 0 rfl) ?_
    refine lv_iadd hx hb dX8_linkOf_36 ?_
    have b_15 : vp_in ((4 * i) + 0) 1600 := by
      have k_1 : (4 : Int32).toInt = 4 := rfl
      have u_2 := rg_e i
      have k_4 : (0 : Int32).toInt = 0 := rfl
      have v_6 := cv_eq c_1
      have w_7 := hi
      have w_8 := hrc
      have u_3 := mu_o 4 4 i rfl
      have u_5 := ad_o (4 * i) 0
      exact vp_in_iff.mpr (by omega)
    refine mm_iald (v := (q.1 32 (Int32.toNatClampNeg ((4 * i) + 0)))) hx hb hK hW 32 1600 rfl b_15 ((rfl)) dX8_linkOf_37 ?_
    refine lv_i2l (v := ((q.1 32 (Int32.toNatClampNeg ((4 * i) + 0))) : Int32).toInt64) hx hb dX8_linkOf_38 rfl ?_
    refine mm_callSl (n := 2) (As := [.long 0, .long ((q.1 32 (Int32.toNatClampNeg ((4 * i) + 0))) : Int32).toInt64]) (rest := []) (r := (m_X8_linked 0 ((q.1 32 (Int32.toNatClampNeg ((4 * i) + 0))) : Int32).toInt64)) (q2 := q) ⟨hx, hb, hml, hown, hts⟩ (c_X8_linked l D b0 Pc cA ad q 0 ((q.1 32 (Int32.toNatClampNeg ((4 * i) + 0))) : Int32).toInt64) gX8_linkOf_X8_linked rfl (by decide +kernel) rfl ⟨Nat.le_of_ble_eq_true rfl, Nat.le_of_ble_eq_true rfl⟩ ⟨Nat.le_of_ble_eq_true rfl, Nat.le_of_ble_eq_true rfl⟩ hK hW hS hl.1 rfl (Nat.le_of_ble_eq_true rfl) dX8_linkOf_39 (fun H locs hW hS => ?_)
    refine lv_lstore_n (lv' := [(2, .long (m_X8_linked 0 ((q.1 32 (Int32.toNatClampNeg ((4 * i) + 0))) : Int32).toInt64)), (4, .int 0), (0, .ref (ad 20 0)), (1, .int i)]) hx hb dX8_linkOf_42 rfl hl (by decide) rfl (fun ls hl => ?_)
    refine lv_iinc (v := 1) (lv' := [(4, .int 1), (2, .long (m_X8_linked 0 ((q.1 32 (Int32.toNatClampNeg ((4 * i) + 0))) : Int32).toInt64)), (0, .ref (ad 20 0)), (1, .int i)]) hx hb dX8_linkOf_43 hl (k := 1) rfl (by first | rfl | decide) (by decide) rfl (fun ls hl => ?_)
    refine lv_goto (tgt := 20) hx hb dX8_linkOf_46 (by decide) ?_
    refine lv_iload hx hb dX8_linkOf_20 (lv_at hl 0 rfl) ?_
    refine lv_iconst (v := 4) hx hb dX8_linkOf_22 (by decide) ?_
    refine lv_icmp_ge (tgt := 49) hx hb dX8_linkOf_23 (by decide) (fun h => absurd h (by decide)) (fun _ => ?_)
    refine lv_lload_n hx hb dX8_linkOf_26 rfl (lv_at hl 1 rfl) ?_
    refine lv_aload_n hx hb dX8_linkOf_27 rfl (lv_at hl 2 rfl) ?_
    refine mm_get (v := .ref (ad 21 32)) hx hb hts hin hown hK hW 32 (by decide) (List.mem_of_getElem? (i := 2) rfl) rfl rfl dX8_linkOf_28 ?_
    refine lv_iconst (v := 4) hx hb dX8_linkOf_31 (by decide) ?_
    refine lv_iload_n hx hb dX8_linkOf_32 rfl (lv_at hl 3 rfl) ?_
    refine lv_imul hx hb dX8_linkOf_33 ?_
    refine lv_iload hx hb dX8_linkOf_34 (lv_at hl 0 rfl) ?_
    refine lv_iadd hx hb dX8_linkOf_36 ?_
    have b_16 : vp_in ((4 * i) + 1) 1600 := by
      have k_1 : (4 : Int32).toInt = 4 := rfl
      have u_2 := rg_e i
      have k_4 : (1 : Int32).toInt = 1 := rfl
      have k_6 : (0 : Int32).toInt = 0 := rfl
      have v_7 := cv_eq c_1
      have w_8 := hi
      have w_9 := hrc
      have u_3 := mu_o 4 4 i rfl
      have u_5 := ad_o (4 * i) 1
      exact vp_in_iff.mpr (by omega)
    refine mm_iald (v := (q.1 32 (Int32.toNatClampNeg ((4 * i) + 1)))) hx hb hK hW 32 1600 rfl b_16 ((rfl)) dX8_linkOf_37 ?_
    refine lv_i2l (v := ((q.1 32 (Int32.toNatClampNeg ((4 * i) + 1))) : Int32).toInt64) hx hb dX8_linkOf_38 rfl ?_
    refine mm_callSl (n := 2) (As := [.long (m_X8_linked 0 ((q.1 32 (Int32.toNatClampNeg ((4 * i) + 0))) : Int32).toInt64), .long ((q.1 32 (Int32.toNatClampNeg ((4 * i) + 1))) : Int32).toInt64]) (rest := []) (r := (m_X8_linked (m_X8_linked 0 ((q.1 32 (Int32.toNatClampNeg ((4 * i) + 0))) : Int32).toInt64) ((q.1 32 (Int32.toNatClampNeg ((4 * i) + 1))) : Int32).toInt64)) (q2 := q) ⟨hx, hb, hml, hown, hts⟩ (c_X8_linked l D b0 Pc cA ad q (m_X8_linked 0 ((q.1 32 (Int32.toNatClampNeg ((4 * i) + 0))) : Int32).toInt64) ((q.1 32 (Int32.toNatClampNeg ((4 * i) + 1))) : Int32).toInt64) gX8_linkOf_X8_linked rfl (by decide +kernel) rfl ⟨Nat.le_of_ble_eq_true rfl, Nat.le_of_ble_eq_true rfl⟩ ⟨Nat.le_of_ble_eq_true rfl, Nat.le_of_ble_eq_true rfl⟩ hK hW hS hl.1 rfl (Nat.le_of_ble_eq_true rfl) dX8_linkOf_39 (fun H locs hW hS => ?_)
    refine lv_lstore_n (lv' := [(2, .long (m_X8_linked (m_X8_linked 0 ((q.1 32 (Int32.toNatClampNeg ((4 * i) + 0))) : Int32).toInt64) ((q.1 32 (Int32.toNatClampNeg ((4 * i) + 1))) : Int32).toInt64)), (4, .int 1), (0, .ref (ad 20 0)), (1, .int i)]) hx hb dX8_linkOf_42 rfl hl (by decide) rfl (fun ls hl => ?_)
    refine lv_iinc (v := 2) (lv' := [(4, .int 2), (2, .long (m_X8_linked (m_X8_linked 0 ((q.1 32 (Int32.toNatClampNeg ((4 * i) + 0))) : Int32).toInt64) ((q.1 32 (Int32.toNatClampNeg ((4 * i) + 1))) : Int32).toInt64)), (0, .ref (ad 20 0)), (1, .int i)]) hx hb dX8_linkOf_43 hl (k := 1) rfl (by first | rfl | decide) (by decide) rfl (fun ls hl => ?_)
    refine lv_goto (tgt := 20) hx hb dX8_linkOf_46 (by decide) ?_
    refine lv_iload hx hb dX8_linkOf_20 (lv_at hl 0 rfl) ?_
    refine lv_iconst (v := 4) hx hb dX8_linkOf_22 (by decide) ?_
    refine lv_icmp_ge (tgt := 49) hx hb dX8_linkOf_23 (by decide) (fun h => absurd h (by decide)) (fun _ => ?_)
    refine lv_lload_n hx hb dX8_linkOf_26 rfl (lv_at hl 1 rfl) ?_
    refine lv_aload_n hx hb dX8_linkOf_27 rfl (lv_at hl 2 rfl) ?_
    refine mm_get (v := .ref (ad 21 32)) hx hb hts hin hown hK hW 32 (by decide) (List.mem_of_getElem? (i := 2) rfl) rfl rfl dX8_linkOf_28 ?_
    refine lv_iconst (v := 4) hx hb dX8_linkOf_31 (by decide) ?_
    refine lv_iload_n hx hb dX8_linkOf_32 rfl (lv_at hl 3 rfl) ?_
    refine lv_imul hx hb dX8_linkOf_33 ?_
    refine lv_iload hx hb dX8_linkOf_34 (lv_at hl 0 rfl) ?_
    refine lv_iadd hx hb dX8_linkOf_36 ?_
    have b_17 : vp_in ((4 * i) + 2) 1600 := by
      have k_1 : (4 : Int32).toInt = 4 := rfl
      have u_2 := rg_e i
      have k_4 : (2 : Int32).toInt = 2 := rfl
      have k_6 : (0 : Int32).toInt = 0 := rfl
      have v_7 := cv_eq c_1
      have w_8 := hi
      have w_9 := hrc
      have u_3 := mu_o 4 4 i rfl
      have u_5 := ad_o (4 * i) 2
      exact vp_in_iff.mpr (by omega)
    refine mm_iald (v := (q.1 32 (Int32.toNatClampNeg ((4 * i) + 2)))) hx hb hK hW 32 1600 rfl b_17 ((rfl)) dX8_linkOf_37 ?_
    refine lv_i2l (v := ((q.1 32 (Int32.toNatClampNeg ((4 * i) + 2))) : Int32).toInt64) hx hb dX8_linkOf_38 rfl ?_
    refine mm_callSl (n := 2) (As := [.long (m_X8_linked (m_X8_linked 0 ((q.1 32 (Int32.toNatClampNeg ((4 * i) + 0))) : Int32).toInt64) ((q.1 32 (Int32.toNatClampNeg ((4 * i) + 1))) : Int32).toInt64), .long ((q.1 32 (Int32.toNatClampNeg ((4 * i) + 2))) : Int32).toInt64]) (rest := []) (r := (m_X8_linked (m_X8_linked (m_X8_linked 0 ((q.1 32 (Int32.toNatClampNeg ((4 * i) + 0))) : Int32).toInt64) ((q.1 32 (Int32.toNatClampNeg ((4 * i) + 1))) : Int32).toInt64) ((q.1 32 (Int32.toNatClampNeg ((4 * i) + 2))) : Int32).toInt64)) (q2 := q) ⟨hx, hb, hml, hown, hts⟩ (c_X8_linked l D b0 Pc cA ad q (m_X8_linked (m_X8_linked 0 ((q.1 32 (Int32.toNatClampNeg ((4 * i) + 0))) : Int32).toInt64) ((q.1 32 (Int32.toNatClampNeg ((4 * i) + 1))) : Int32).toInt64) ((q.1 32 (Int32.toNatClampNeg ((4 * i) + 2))) : Int32).toInt64) gX8_linkOf_X8_linked rfl (by decide +kernel) rfl ⟨Nat.le_of_ble_eq_true rfl, Nat.le_of_ble_eq_true rfl⟩ ⟨Nat.le_of_ble_eq_true rfl, Nat.le_of_ble_eq_true rfl⟩ hK hW hS hl.1 rfl (Nat.le_of_ble_eq_true rfl) dX8_linkOf_39 (fun H locs hW hS => ?_)
    refine lv_lstore_n (lv' := [(2, .long (m_X8_linked (m_X8_linked (m_X8_linked 0 ((q.1 32 (Int32.toNatClampNeg ((4 * i) + 0))) : Int32).toInt64) ((q.1 32 (Int32.toNatClampNeg ((4 * i) + 1))) : Int32).toInt64) ((q.1 32 (Int32.toNatClampNeg ((4 * i) + 2))) : Int32).toInt64)), (4, .int 2), (0, .ref (ad 20 0)), (1, .int i)]) hx hb dX8_linkOf_42 rfl hl (by decide) rfl (fun ls hl => ?_)
    refine lv_iinc (v := 3) (lv' := [(4, .int 3), (2, .long (m_X8_linked (m_X8_linked (m_X8_linked 0 ((q.1 32 (Int32.toNatClampNeg ((4 * i) + 0))) : Int32).toInt64) ((q.1 32 (Int32.toNatClampNeg ((4 * i) + 1))) : Int32).toInt64) ((q.1 32 (Int32.toNatClampNeg ((4 * i) + 2))) : Int32).toInt64)), (0, .ref (ad 20 0)), (1, .int i)]) hx hb dX8_linkOf_43 hl (k := 1) rfl (by first | rfl | decide) (by decide) rfl (fun ls hl => ?_)
    refine lv_goto (tgt := 20) hx hb dX8_linkOf_46 (by decide) ?_
    refine lv_iload hx hb dX8_linkOf_20 (lv_at hl 0 rfl) ?_
    refine lv_iconst (v := 4) hx hb dX8_linkOf_22 (by decide) ?_
    refine lv_icmp_ge (tgt := 49) hx hb dX8_linkOf_23 (by decide) (fun h => absurd h (by decide)) (fun _ => ?_)
    refine lv_lload_n hx hb dX8_linkOf_26 rfl (lv_at hl 1 rfl) ?_
    refine lv_aload_n hx hb dX8_linkOf_27 rfl (lv_at hl 2 rfl) ?_
    refine mm_get (v := .ref (ad 21 32)) hx hb hts hin hown hK hW 32 (by decide) (List.mem_of_getElem? (i := 2) rfl) rfl rfl dX8_linkOf_28 ?_
    refine lv_iconst (v := 4) hx hb dX8_linkOf_31 (by decide) ?_
    refine lv_iload_n hx hb dX8_linkOf_32 rfl (lv_at hl 3 rfl) ?_
    refine lv_imul hx hb dX8_linkOf_33 ?_
    refine lv_iload hx hb dX8_linkOf_34 (lv_at hl 0 rfl) ?_
    refine lv_iadd hx hb dX8_linkOf_36 ?_
    have b_18 : vp_in ((4 * i) + 3) 1600 := by
      have k_1 : (4 : Int32).toInt = 4 := rfl
      have u_2 := rg_e i
      have k_4 : (3 : Int32).toInt = 3 := rfl
      have k_6 : (0 : Int32).toInt = 0 := rfl
      have v_7 := cv_eq c_1
      have w_8 := hi
      have w_9 := hrc
      have u_3 := mu_o 4 4 i rfl
      have u_5 := ad_o (4 * i) 3
      exact vp_in_iff.mpr (by omega)
    refine mm_iald (v := (q.1 32 (Int32.toNatClampNeg ((4 * i) + 3)))) hx hb hK hW 32 1600 rfl b_18 ((rfl)) dX8_linkOf_37 ?_
    refine lv_i2l (v := ((q.1 32 (Int32.toNatClampNeg ((4 * i) + 3))) : Int32).toInt64) hx hb dX8_linkOf_38 rfl ?_
    refine mm_callSl (n := 2) (As := [.long (m_X8_linked (m_X8_linked (m_X8_linked 0 ((q.1 32 (Int32.toNatClampNeg ((4 * i) + 0))) : Int32).toInt64) ((q.1 32 (Int32.toNatClampNeg ((4 * i) + 1))) : Int32).toInt64) ((q.1 32 (Int32.toNatClampNeg ((4 * i) + 2))) : Int32).toInt64), .long ((q.1 32 (Int32.toNatClampNeg ((4 * i) + 3))) : Int32).toInt64]) (rest := []) (r := (m_X8_linked (m_X8_linked (m_X8_linked (m_X8_linked 0 ((q.1 32 (Int32.toNatClampNeg ((4 * i) + 0))) : Int32).toInt64) ((q.1 32 (Int32.toNatClampNeg ((4 * i) + 1))) : Int32).toInt64) ((q.1 32 (Int32.toNatClampNeg ((4 * i) + 2))) : Int32).toInt64) ((q.1 32 (Int32.toNatClampNeg ((4 * i) + 3))) : Int32).toInt64)) (q2 := q) ⟨hx, hb, hml, hown, hts⟩ (c_X8_linked l D b0 Pc cA ad q (m_X8_linked (m_X8_linked (m_X8_linked 0 ((q.1 32 (Int32.toNatClampNeg ((4 * i) + 0))) : Int32).toInt64) ((q.1 32 (Int32.toNatClampNeg ((4 * i) + 1))) : Int32).toInt64) ((q.1 32 (Int32.toNatClampNeg ((4 * i) + 2))) : Int32).toInt64) ((q.1 32 (Int32.toNatClampNeg ((4 * i) + 3))) : Int32).toInt64) gX8_linkOf_X8_linked rfl (by decide +kernel) rfl ⟨Nat.le_of_ble_eq_true rfl, Nat.le_of_ble_eq_true rfl⟩ ⟨Nat.le_of_ble_eq_true rfl, Nat.le_of_ble_eq_true rfl⟩ hK hW hS hl.1 rfl (Nat.le_of_ble_eq_true rfl) dX8_linkOf_39 (fun H locs hW hS => ?_)
    refine lv_lstore_n (lv' := [(2, .long (m_X8_linked (m_X8_linked (m_X8_linked (m_X8_linked 0 ((q.1 32 (Int32.toNatClampNeg ((4 * i) + 0))) : Int32).toInt64) ((q.1 32 (Int32.toNatClampNeg ((4 * i) + 1))) : Int32).toInt64) ((q.1 32 (Int32.toNatClampNeg ((4 * i) + 2))) : Int32).toInt64) ((q.1 32 (Int32.toNatClampNeg ((4 * i) + 3))) : Int32).toInt64)), (4, .int 3), (0, .ref (ad 20 0)), (1, .int i)]) hx hb dX8_linkOf_42 rfl hl (by decide) rfl (fun ls hl => ?_)
    refine lv_iinc (v := 4) (lv' := [(4, .int 4), (2, .long (m_X8_linked (m_X8_linked (m_X8_linked (m_X8_linked 0 ((q.1 32 (Int32.toNatClampNeg ((4 * i) + 0))) : Int32).toInt64) ((q.1 32 (Int32.toNatClampNeg ((4 * i) + 1))) : Int32).toInt64) ((q.1 32 (Int32.toNatClampNeg ((4 * i) + 2))) : Int32).toInt64) ((q.1 32 (Int32.toNatClampNeg ((4 * i) + 3))) : Int32).toInt64)), (0, .ref (ad 20 0)), (1, .int i)]) hx hb dX8_linkOf_43 hl (k := 1) rfl (by first | rfl | decide) (by decide) rfl (fun ls hl => ?_)
    refine lv_goto (tgt := 20) hx hb dX8_linkOf_46 (by decide) ?_
    refine lv_iload hx hb dX8_linkOf_20 (lv_at hl 0 rfl) ?_
    refine lv_iconst (v := 4) hx hb dX8_linkOf_22 (by decide) ?_
    refine lv_icmp_ge (tgt := 49) hx hb dX8_linkOf_23 (by decide) (fun _ => ?_) (fun h => absurd h (by decide))
    refine lv_aload_n hx hb dX8_linkOf_49 rfl (lv_at hl 2 rfl) ?_
    refine mm_get (v := .ref (ad 21 32)) hx hb hts hin hown hK hW 32 (by decide) (List.mem_of_getElem? (i := 2) rfl) rfl rfl dX8_linkOf_50 ?_
    refine lv_iconst (v := 4) hx hb dX8_linkOf_53 (by decide) ?_
    refine lv_iload_n hx hb dX8_linkOf_54 rfl (lv_at hl 3 rfl) ?_
    refine lv_imul hx hb dX8_linkOf_55 ?_
    have b_19 : vp_in (4 * i) 1600 := by
      have k_1 : (4 : Int32).toInt = 4 := rfl
      have u_2 := rg_e i
      have k_4 : (0 : Int32).toInt = 0 := rfl
      have v_5 := cv_eq c_1
      have w_6 := hi
      have w_7 := hrc
      have u_3 := mu_o 4 4 i rfl
      exact vp_in_iff.mpr (by omega)
    refine mm_iald (v := (q.1 32 (Int32.toNatClampNeg (4 * i)))) hx hb hK hW 32 1600 rfl b_19 ((rfl)) dX8_linkOf_56 ?_
    refine lv_istore (lv' := [(4, .int (q.1 32 (Int32.toNatClampNeg (4 * i)))), (2, .long (m_X8_linked (m_X8_linked (m_X8_linked (m_X8_linked 0 ((q.1 32 (Int32.toNatClampNeg ((4 * i) + 0))) : Int32).toInt64) ((q.1 32 (Int32.toNatClampNeg ((4 * i) + 1))) : Int32).toInt64) ((q.1 32 (Int32.toNatClampNeg ((4 * i) + 2))) : Int32).toInt64) ((q.1 32 (Int32.toNatClampNeg ((4 * i) + 3))) : Int32).toInt64)), (0, .ref (ad 20 0)), (1, .int i)]) hx hb dX8_linkOf_57 hl (by decide) rfl (fun ls hl => ?_)
    refine lv_aload_n hx hb dX8_linkOf_59 rfl (lv_at hl 2 rfl) ?_
    refine mm_get (v := .ref (ad 21 32)) hx hb hts hin hown hK hW 32 (by decide) (List.mem_of_getElem? (i := 2) rfl) rfl rfl dX8_linkOf_60 ?_
    refine lv_iconst (v := 4) hx hb dX8_linkOf_63 (by decide) ?_
    refine lv_iload_n hx hb dX8_linkOf_64 rfl (lv_at hl 3 rfl) ?_
    refine lv_imul hx hb dX8_linkOf_65 ?_
    refine lv_iconst (v := 1) hx hb dX8_linkOf_66 (by decide) ?_
    refine lv_iadd hx hb dX8_linkOf_67 ?_
    have b_20 : vp_in ((4 * i) + 1) 1600 := by
      have k_1 : (4 : Int32).toInt = 4 := rfl
      have u_2 := rg_e i
      have k_4 : (1 : Int32).toInt = 1 := rfl
      have k_6 : (0 : Int32).toInt = 0 := rfl
      have v_7 := cv_eq c_1
      have w_8 := hi
      have w_9 := hrc
      have u_3 := mu_o 4 4 i rfl
      have u_5 := ad_o (4 * i) 1
      exact vp_in_iff.mpr (by omega)
    refine mm_iald (v := (q.1 32 (Int32.toNatClampNeg ((4 * i) + 1)))) hx hb hK hW 32 1600 rfl b_20 ((rfl)) dX8_linkOf_68 ?_
    refine lv_istore (lv' := [(5, .int (q.1 32 (Int32.toNatClampNeg ((4 * i) + 1)))), (4, .int (q.1 32 (Int32.toNatClampNeg (4 * i)))), (2, .long (m_X8_linked (m_X8_linked (m_X8_linked (m_X8_linked 0 ((q.1 32 (Int32.toNatClampNeg ((4 * i) + 0))) : Int32).toInt64) ((q.1 32 (Int32.toNatClampNeg ((4 * i) + 1))) : Int32).toInt64) ((q.1 32 (Int32.toNatClampNeg ((4 * i) + 2))) : Int32).toInt64) ((q.1 32 (Int32.toNatClampNeg ((4 * i) + 3))) : Int32).toInt64)), (0, .ref (ad 20 0)), (1, .int i)]) hx hb dX8_linkOf_69 hl (by decide) rfl (fun ls hl => ?_)
    refine lv_iload hx hb dX8_linkOf_71 (lv_at hl 1 rfl) ?_
    refine lv_iconst (v := 5) hx hb dX8_linkOf_73 (by decide) ?_
    refine lv_icmp_eq (tgt := 84) hx hb dX8_linkOf_74 (by decide) (fun c_21 => ?_) (fun c_21 => ?_)
    · refine lv_lload_n hx hb dX8_linkOf_84 rfl (lv_at hl 2 rfl) ?_
      refine lv_iload hx hb dX8_linkOf_85 (lv_at hl 0 rfl) ?_
      refine lv_iconst (v := 0) hx hb dX8_linkOf_87 (by decide) ?_
      refine lv_aload_n hx hb dX8_linkOf_88 rfl (lv_at hl 3 rfl) ?_
      refine mm_gets (v := (q.1 12 0)) hx hb hts hin hown hK hW 12 (by decide) (List.mem_of_getElem? (i := 3) rfl) rfl rfl (rfl) dX8_linkOf_89 ?_
      refine lv_iconst (v := 1) hx hb dX8_linkOf_92 (by decide) ?_
      refine lv_isub hx hb dX8_linkOf_93 ?_
      refine mm_callSi (n := 3) (As := [.int (q.1 32 (Int32.toNatClampNeg ((4 * i) + 1))), .int 0, .int ((q.1 12 0) - 1)]) (rest := [.long (m_X8_linked (m_X8_linked (m_X8_linked (m_X8_linked 0 ((q.1 32 (Int32.toNatClampNeg ((4 * i) + 0))) : Int32).toInt64) ((q.1 32 (Int32.toNatClampNeg ((4 * i) + 1))) : Int32).toInt64) ((q.1 32 (Int32.toNatClampNeg ((4 * i) + 2))) : Int32).toInt64) ((q.1 32 (Int32.toNatClampNeg ((4 * i) + 3))) : Int32).toInt64)]) (r := (m_X8_isIn (q.1 32 (Int32.toNatClampNeg ((4 * i) + 1))) 0 ((q.1 12 0) - 1))) (q2 := q) ⟨hx, hb, hml, hown, hts⟩ (c_X8_isIn l D b0 Pc cA ad q (q.1 32 (Int32.toNatClampNeg ((4 * i) + 1))) 0 ((q.1 12 0) - 1)) gX8_linkOf_X8_isIn rfl (by decide +kernel) rfl ⟨Nat.le_of_ble_eq_true rfl, Nat.le_of_ble_eq_true rfl⟩ ⟨Nat.le_of_ble_eq_true rfl, Nat.le_of_ble_eq_true rfl⟩ hK hW hS hl.1 rfl (Nat.le_of_ble_eq_true rfl) dX8_linkOf_94 (fun H locs hW hS => ?_)
      refine lv_if_eq (tgt := 110) hx hb dX8_linkOf_97 (by decide) (fun c_22 => ?_) (fun c_22 => ?_)
      · refine lv_lconst (v := 0) hx hb dX8_linkOf_110 (by decide) ?_
        refine mm_callSl (n := 2) (As := [.long (m_X8_linked (m_X8_linked (m_X8_linked (m_X8_linked 0 ((q.1 32 (Int32.toNatClampNeg ((4 * i) + 0))) : Int32).toInt64) ((q.1 32 (Int32.toNatClampNeg ((4 * i) + 1))) : Int32).toInt64) ((q.1 32 (Int32.toNatClampNeg ((4 * i) + 2))) : Int32).toInt64) ((q.1 32 (Int32.toNatClampNeg ((4 * i) + 3))) : Int32).toInt64), .long 0]) (rest := []) (r := (m_X8_linked (m_X8_linked (m_X8_linked (m_X8_linked (m_X8_linked 0 ((q.1 32 (Int32.toNatClampNeg ((4 * i) + 0))) : Int32).toInt64) ((q.1 32 (Int32.toNatClampNeg ((4 * i) + 1))) : Int32).toInt64) ((q.1 32 (Int32.toNatClampNeg ((4 * i) + 2))) : Int32).toInt64) ((q.1 32 (Int32.toNatClampNeg ((4 * i) + 3))) : Int32).toInt64) 0)) (q2 := q) ⟨hx, hb, hml, hown, hts⟩ (c_X8_linked l D b0 Pc cA ad q (m_X8_linked (m_X8_linked (m_X8_linked (m_X8_linked 0 ((q.1 32 (Int32.toNatClampNeg ((4 * i) + 0))) : Int32).toInt64) ((q.1 32 (Int32.toNatClampNeg ((4 * i) + 1))) : Int32).toInt64) ((q.1 32 (Int32.toNatClampNeg ((4 * i) + 2))) : Int32).toInt64) ((q.1 32 (Int32.toNatClampNeg ((4 * i) + 3))) : Int32).toInt64) 0) gX8_linkOf_X8_linked rfl (by decide +kernel) rfl ⟨Nat.le_of_ble_eq_true rfl, Nat.le_of_ble_eq_true rfl⟩ ⟨Nat.le_of_ble_eq_true rfl, Nat.le_of_ble_eq_true rfl⟩ hK hW hS hl.1 rfl (Nat.le_of_ble_eq_true rfl) dX8_linkOf_111 (fun H locs hW hS => ?_)
        refine lv_goto (tgt := 118) hx hb dX8_linkOf_114 (by decide) ?_
        exact mm_lret hx hb hr hlk hK hW hS (by rw [m_X8_linkOf, if_pos c_1, if_pos c_21, if_pos c_22]) dX8_linkOf_118
      · refine lv_aload_n hx hb dX8_linkOf_100 rfl (lv_at hl 3 rfl) ?_
        refine mm_get (v := .ref (ad 21 16)) hx hb hts hin hown hK hW 16 (by decide) (List.mem_of_getElem? (i := 4) rfl) rfl rfl dX8_linkOf_101 ?_
        refine lv_iload hx hb dX8_linkOf_104 (lv_at hl 0 rfl) ?_
        have b_23 : vp_in (q.1 32 (Int32.toNatClampNeg ((4 * i) + 1))) 64 := by
          have k_1 : (4 : Int32).toInt = 4 := rfl
          have u_2 := rg_e i
          have k_4 : (1 : Int32).toInt = 1 := rfl
          have u_6 := rg_e (q.1 32 (Int32.toNatClampNeg ((4 * i) + 1)))
          have k_7 : (0 : Int32).toInt = 0 := rfl
          have v_8 := cv_eq c_1
          have u_9 := rg_e (q.1 32 (Int32.toNatClampNeg (4 * i)))
          have k_10 : (5 : Int32).toInt = 5 := rfl
          have v_11 := cv_eq c_21
          have u_12 := rg_e (m_X8_isIn (q.1 32 (Int32.toNatClampNeg ((4 * i) + 1))) 0 ((q.1 12 0) - 1))
          have v_13 := cv_ne c_22
          have u_14 := rg_e (q.1 12 0)
          have v_16 := is_t c_22
          have w_17 := hi
          have w_18 := hrc
          have u_3 := mu_o 4 4 i rfl
          have u_5 := ad_o (4 * i) 1
          have u_15 := su_o (q.1 12 0) 1
          exact vp_in_iff.mpr (by omega)
        refine mm_lald (v := (q.2 16 (Int32.toNatClampNeg (q.1 32 (Int32.toNatClampNeg ((4 * i) + 1)))))) hx hb hK hW 16 64 rfl b_23 ((rfl)) dX8_linkOf_106 ?_
        refine lv_goto (tgt := 111) hx hb dX8_linkOf_107 (by decide) ?_
        refine mm_callSl (n := 2) (As := [.long (m_X8_linked (m_X8_linked (m_X8_linked (m_X8_linked 0 ((q.1 32 (Int32.toNatClampNeg ((4 * i) + 0))) : Int32).toInt64) ((q.1 32 (Int32.toNatClampNeg ((4 * i) + 1))) : Int32).toInt64) ((q.1 32 (Int32.toNatClampNeg ((4 * i) + 2))) : Int32).toInt64) ((q.1 32 (Int32.toNatClampNeg ((4 * i) + 3))) : Int32).toInt64), .long (q.2 16 (Int32.toNatClampNeg (q.1 32 (Int32.toNatClampNeg ((4 * i) + 1)))))]) (rest := []) (r := (m_X8_linked (m_X8_linked (m_X8_linked (m_X8_linked (m_X8_linked 0 ((q.1 32 (Int32.toNatClampNeg ((4 * i) + 0))) : Int32).toInt64) ((q.1 32 (Int32.toNatClampNeg ((4 * i) + 1))) : Int32).toInt64) ((q.1 32 (Int32.toNatClampNeg ((4 * i) + 2))) : Int32).toInt64) ((q.1 32 (Int32.toNatClampNeg ((4 * i) + 3))) : Int32).toInt64) (q.2 16 (Int32.toNatClampNeg (q.1 32 (Int32.toNatClampNeg ((4 * i) + 1))))))) (q2 := q) ⟨hx, hb, hml, hown, hts⟩ (c_X8_linked l D b0 Pc cA ad q (m_X8_linked (m_X8_linked (m_X8_linked (m_X8_linked 0 ((q.1 32 (Int32.toNatClampNeg ((4 * i) + 0))) : Int32).toInt64) ((q.1 32 (Int32.toNatClampNeg ((4 * i) + 1))) : Int32).toInt64) ((q.1 32 (Int32.toNatClampNeg ((4 * i) + 2))) : Int32).toInt64) ((q.1 32 (Int32.toNatClampNeg ((4 * i) + 3))) : Int32).toInt64) (q.2 16 (Int32.toNatClampNeg (q.1 32 (Int32.toNatClampNeg ((4 * i) + 1)))))) gX8_linkOf_X8_linked rfl (by decide +kernel) rfl ⟨Nat.le_of_ble_eq_true rfl, Nat.le_of_ble_eq_true rfl⟩ ⟨Nat.le_of_ble_eq_true rfl, Nat.le_of_ble_eq_true rfl⟩ hK hW hS hl.1 rfl (Nat.le_of_ble_eq_true rfl) dX8_linkOf_111 (fun H locs hW hS => ?_)
        refine lv_goto (tgt := 118) hx hb dX8_linkOf_114 (by decide) ?_
        exact mm_lret hx hb hr hlk hK hW hS (by rw [m_X8_linkOf, if_pos c_1, if_pos c_21, if_neg c_22]) dX8_linkOf_118
    · refine lv_iload hx hb dX8_linkOf_77 (lv_at hl 1 rfl) ?_
      refine lv_bipush (v := 11) hx hb dX8_linkOf_79 (by decide) ?_
      refine lv_icmp_ne (tgt := 117) hx hb dX8_linkOf_81 (by decide) (fun c_24 => ?_) (fun c_24 => ?_)
      · refine lv_lload_n hx hb dX8_linkOf_117 rfl (lv_at hl 2 rfl) ?_
        exact mm_lret hx hb hr hlk hK hW hS (by rw [m_X8_linkOf, if_pos c_1, if_neg c_21, if_neg c_24]) dX8_linkOf_118
      · refine lv_lload_n hx hb dX8_linkOf_84 rfl (lv_at hl 2 rfl) ?_
        refine lv_iload hx hb dX8_linkOf_85 (lv_at hl 0 rfl) ?_
        refine lv_iconst (v := 0) hx hb dX8_linkOf_87 (by decide) ?_
        refine lv_aload_n hx hb dX8_linkOf_88 rfl (lv_at hl 3 rfl) ?_
        refine mm_gets (v := (q.1 12 0)) hx hb hts hin hown hK hW 12 (by decide) (List.mem_of_getElem? (i := 3) rfl) rfl rfl (rfl) dX8_linkOf_89 ?_
        refine lv_iconst (v := 1) hx hb dX8_linkOf_92 (by decide) ?_
        refine lv_isub hx hb dX8_linkOf_93 ?_
        refine mm_callSi (n := 3) (As := [.int (q.1 32 (Int32.toNatClampNeg ((4 * i) + 1))), .int 0, .int ((q.1 12 0) - 1)]) (rest := [.long (m_X8_linked (m_X8_linked (m_X8_linked (m_X8_linked 0 ((q.1 32 (Int32.toNatClampNeg ((4 * i) + 0))) : Int32).toInt64) ((q.1 32 (Int32.toNatClampNeg ((4 * i) + 1))) : Int32).toInt64) ((q.1 32 (Int32.toNatClampNeg ((4 * i) + 2))) : Int32).toInt64) ((q.1 32 (Int32.toNatClampNeg ((4 * i) + 3))) : Int32).toInt64)]) (r := (m_X8_isIn (q.1 32 (Int32.toNatClampNeg ((4 * i) + 1))) 0 ((q.1 12 0) - 1))) (q2 := q) ⟨hx, hb, hml, hown, hts⟩ (c_X8_isIn l D b0 Pc cA ad q (q.1 32 (Int32.toNatClampNeg ((4 * i) + 1))) 0 ((q.1 12 0) - 1)) gX8_linkOf_X8_isIn rfl (by decide +kernel) rfl ⟨Nat.le_of_ble_eq_true rfl, Nat.le_of_ble_eq_true rfl⟩ ⟨Nat.le_of_ble_eq_true rfl, Nat.le_of_ble_eq_true rfl⟩ hK hW hS hl.1 rfl (Nat.le_of_ble_eq_true rfl) dX8_linkOf_94 (fun H locs hW hS => ?_)
        refine lv_if_eq (tgt := 110) hx hb dX8_linkOf_97 (by decide) (fun c_25 => ?_) (fun c_25 => ?_)
        · refine lv_lconst (v := 0) hx hb dX8_linkOf_110 (by decide) ?_
          refine mm_callSl (n := 2) (As := [.long (m_X8_linked (m_X8_linked (m_X8_linked (m_X8_linked 0 ((q.1 32 (Int32.toNatClampNeg ((4 * i) + 0))) : Int32).toInt64) ((q.1 32 (Int32.toNatClampNeg ((4 * i) + 1))) : Int32).toInt64) ((q.1 32 (Int32.toNatClampNeg ((4 * i) + 2))) : Int32).toInt64) ((q.1 32 (Int32.toNatClampNeg ((4 * i) + 3))) : Int32).toInt64), .long 0]) (rest := []) (r := (m_X8_linked (m_X8_linked (m_X8_linked (m_X8_linked (m_X8_linked 0 ((q.1 32 (Int32.toNatClampNeg ((4 * i) + 0))) : Int32).toInt64) ((q.1 32 (Int32.toNatClampNeg ((4 * i) + 1))) : Int32).toInt64) ((q.1 32 (Int32.toNatClampNeg ((4 * i) + 2))) : Int32).toInt64) ((q.1 32 (Int32.toNatClampNeg ((4 * i) + 3))) : Int32).toInt64) 0)) (q2 := q) ⟨hx, hb, hml, hown, hts⟩ (c_X8_linked l D b0 Pc cA ad q (m_X8_linked (m_X8_linked (m_X8_linked (m_X8_linked 0 ((q.1 32 (Int32.toNatClampNeg ((4 * i) + 0))) : Int32).toInt64) ((q.1 32 (Int32.toNatClampNeg ((4 * i) + 1))) : Int32).toInt64) ((q.1 32 (Int32.toNatClampNeg ((4 * i) + 2))) : Int32).toInt64) ((q.1 32 (Int32.toNatClampNeg ((4 * i) + 3))) : Int32).toInt64) 0) gX8_linkOf_X8_linked rfl (by decide +kernel) rfl ⟨Nat.le_of_ble_eq_true rfl, Nat.le_of_ble_eq_true rfl⟩ ⟨Nat.le_of_ble_eq_true rfl, Nat.le_of_ble_eq_true rfl⟩ hK hW hS hl.1 rfl (Nat.le_of_ble_eq_true rfl) dX8_linkOf_111 (fun H locs hW hS => ?_)
          refine lv_goto (tgt := 118) hx hb dX8_linkOf_114 (by decide) ?_
          exact mm_lret hx hb hr hlk hK hW hS (by rw [m_X8_linkOf, if_pos c_1, if_neg c_21, if_pos c_24, if_pos c_25]) dX8_linkOf_118
        · refine lv_aload_n hx hb dX8_linkOf_100 rfl (lv_at hl 3 rfl) ?_
          refine mm_get (v := .ref (ad 21 16)) hx hb hts hin hown hK hW 16 (by decide) (List.mem_of_getElem? (i := 4) rfl) rfl rfl dX8_linkOf_101 ?_
          refine lv_iload hx hb dX8_linkOf_104 (lv_at hl 0 rfl) ?_
          have b_26 : vp_in (q.1 32 (Int32.toNatClampNeg ((4 * i) + 1))) 64 := by
            have k_1 : (4 : Int32).toInt = 4 := rfl
            have u_2 := rg_e i
            have k_4 : (1 : Int32).toInt = 1 := rfl
            have u_6 := rg_e (q.1 32 (Int32.toNatClampNeg ((4 * i) + 1)))
            have k_7 : (0 : Int32).toInt = 0 := rfl
            have v_8 := cv_eq c_1
            have u_9 := rg_e (q.1 32 (Int32.toNatClampNeg (4 * i)))
            have k_10 : (5 : Int32).toInt = 5 := rfl
            have v_11 := cv_ne c_21
            have k_12 : (11 : Int32).toInt = 11 := rfl
            have v_13 := cv_eq c_24
            have u_14 := rg_e (m_X8_isIn (q.1 32 (Int32.toNatClampNeg ((4 * i) + 1))) 0 ((q.1 12 0) - 1))
            have v_15 := cv_ne c_25
            have u_16 := rg_e (q.1 12 0)
            have v_18 := is_t c_25
            have w_19 := hi
            have w_20 := hrc
            have u_3 := mu_o 4 4 i rfl
            have u_5 := ad_o (4 * i) 1
            have u_17 := su_o (q.1 12 0) 1
            exact vp_in_iff.mpr (by omega)
          refine mm_lald (v := (q.2 16 (Int32.toNatClampNeg (q.1 32 (Int32.toNatClampNeg ((4 * i) + 1)))))) hx hb hK hW 16 64 rfl b_26 ((rfl)) dX8_linkOf_106 ?_
          refine lv_goto (tgt := 111) hx hb dX8_linkOf_107 (by decide) ?_
          refine mm_callSl (n := 2) (As := [.long (m_X8_linked (m_X8_linked (m_X8_linked (m_X8_linked 0 ((q.1 32 (Int32.toNatClampNeg ((4 * i) + 0))) : Int32).toInt64) ((q.1 32 (Int32.toNatClampNeg ((4 * i) + 1))) : Int32).toInt64) ((q.1 32 (Int32.toNatClampNeg ((4 * i) + 2))) : Int32).toInt64) ((q.1 32 (Int32.toNatClampNeg ((4 * i) + 3))) : Int32).toInt64), .long (q.2 16 (Int32.toNatClampNeg (q.1 32 (Int32.toNatClampNeg ((4 * i) + 1)))))]) (rest := []) (r := (m_X8_linked (m_X8_linked (m_X8_linked (m_X8_linked (m_X8_linked 0 ((q.1 32 (Int32.toNatClampNeg ((4 * i) + 0))) : Int32).toInt64) ((q.1 32 (Int32.toNatClampNeg ((4 * i) + 1))) : Int32).toInt64) ((q.1 32 (Int32.toNatClampNeg ((4 * i) + 2))) : Int32).toInt64) ((q.1 32 (Int32.toNatClampNeg ((4 * i) + 3))) : Int32).toInt64) (q.2 16 (Int32.toNatClampNeg (q.1 32 (Int32.toNatClampNeg ((4 * i) + 1))))))) (q2 := q) ⟨hx, hb, hml, hown, hts⟩ (c_X8_linked l D b0 Pc cA ad q (m_X8_linked (m_X8_linked (m_X8_linked (m_X8_linked 0 ((q.1 32 (Int32.toNatClampNeg ((4 * i) + 0))) : Int32).toInt64) ((q.1 32 (Int32.toNatClampNeg ((4 * i) + 1))) : Int32).toInt64) ((q.1 32 (Int32.toNatClampNeg ((4 * i) + 2))) : Int32).toInt64) ((q.1 32 (Int32.toNatClampNeg ((4 * i) + 3))) : Int32).toInt64) (q.2 16 (Int32.toNatClampNeg (q.1 32 (Int32.toNatClampNeg ((4 * i) + 1)))))) gX8_linkOf_X8_linked rfl (by decide +kernel) rfl ⟨Nat.le_of_ble_eq_true rfl, Nat.le_of_ble_eq_true rfl⟩ ⟨Nat.le_of_ble_eq_true rfl, Nat.le_of_ble_eq_true rfl⟩ hK hW hS hl.1 rfl (Nat.le_of_ble_eq_true rfl) dX8_linkOf_111 (fun H locs hW hS => ?_)
          refine lv_goto (tgt := 118) hx hb dX8_linkOf_114 (by decide) ?_
          exact mm_lret hx hb hr hlk hK hW hS (by rw [m_X8_linkOf, if_pos c_1, if_neg c_21, if_pos c_24, if_neg c_25]) dX8_linkOf_118
end
section
def m_X8_write (q : qM) (kind : Int32) (na : Int32) (nb : Int32) (nc : Int32) : qM := (mq_i (mq_l (mq_i (mq_i (mq_i (mq_i q 32 (Int32.toNatClampNeg (4 * (q.1 31 0))) kind) 32 (Int32.toNatClampNeg ((4 * (q.1 31 0)) + 1)) na) 32 (Int32.toNatClampNeg ((4 * (q.1 31 0)) + 2)) nb) 32 (Int32.toNatClampNeg ((4 * (q.1 31 0)) + 3)) nc) 33 (Int32.toNatClampNeg (q.1 31 0)) (m_X8_linkOf (mq_i (mq_i (mq_i (mq_i q 32 (Int32.toNatClampNeg (4 * (q.1 31 0))) kind) 32 (Int32.toNatClampNeg ((4 * (q.1 31 0)) + 1)) na) 32 (Int32.toNatClampNeg ((4 * (q.1 31 0)) + 2)) nb) 32 (Int32.toNatClampNeg ((4 * (q.1 31 0)) + 3)) nc) (q.1 31 0))) 31 0 ((q.1 31 0) + 1))
set_option maxHeartbeats 4000000 in
set_option maxRecDepth 100000 in
theorem c_X8_write (l : Launch) (D : va_G) (b0 : Nat) (Pc : Nat → Nat → Option va_E) (cA : Nat → ClassId) (ad : Nat → Nat → Nat) (q : qM) (kind : Int32) (na : Int32) (nb : Int32) (nc : Int32) (ha : 0 ≤ (q.1 31 0).toInt ∧ (q.1 31 0).toInt ≤ 399) (hrc : 0 ≤ (q.1 12 0).toInt ∧ (q.1 12 0).toInt ≤ 64) : mc_v l yX8_write wsX8_write 2 50 D b0 Pc cA ad q [.ref (ad 20 0), .int kind, .int na, .int nb, .int nc] (m_X8_write q kind na nb nc) := by
  refine mc_of (by decide) rfl (Nat.le_of_ble_eq_true rfl) ?_
  intro p e s m below meth c hx hb hml hr hlk hown hts hK hW ls hl
  have hown : s.vm.findClass RX8 = some m.cls := hown
  have hS : va_S (wA b0) s.heap s.heap [] := va_S.rf
  have hl : lv_has ls 5 [(0, .ref (ad 20 0)), (1, .int kind), (2, .int na), (3, .int nb), (4, .int nc)] := hl
  have hin : ∀ w ∈ wsX80, w ∈ wsX8_write := fun w h => List.mem_cons_of_mem _ (List.mem_append_right _ h)
  refine lv_aload_n hx hb dX8_write_0 rfl (lv_at hl 0 rfl) ?_
  refine mm_get (v := .ref (ad 21 32)) hx hb hts hin hown hK hW 32 (by decide) (List.mem_of_getElem? (i := 1) rfl) rfl rfl dX8_write_1 ?_
  refine lv_iconst (v := 4) hx hb dX8_write_4 (by decide) ?_
  refine lv_aload_n hx hb dX8_write_5 rfl (lv_at hl 0 rfl) ?_
  refine mm_gets (v := (q.1 31 0)) hx hb hts hin hown hK hW 31 (by decide) (List.mem_of_getElem? (i := 2) rfl) rfl rfl (rfl) dX8_write_6 ?_
  refine lv_imul hx hb dX8_write_9 ?_
  refine lv_iload_n hx hb dX8_write_10 rfl (lv_at hl 1 rfl) ?_
  have b_1 : vp_in (4 * (q.1 31 0)) 1600 := by
    have k_1 : (4 : Int32).toInt = 4 := rfl
    have u_2 := rg_e (q.1 31 0)
    have w_4 := ha
    have w_5 := hrc
    have u_3 := mu_o 4 4 (q.1 31 0) rfl
    exact vp_in_iff.mpr (by omega)
  refine mm_iast hx hb hK hW hS 32 1600 rfl b_1 dX8_write_11 (fun H locs hW hS => ?_)
  refine lv_aload_n hx hb dX8_write_12 rfl (lv_at hl 0 rfl) ?_
  refine mm_get (v := .ref (ad 21 32)) hx hb hts hin hown hK hW 32 (by decide) (List.mem_of_getElem? (i := 1) rfl) rfl rfl dX8_write_13 ?_
  refine lv_iconst (v := 4) hx hb dX8_write_16 (by decide) ?_
  refine lv_aload_n hx hb dX8_write_17 rfl (lv_at hl 0 rfl) ?_
  refine mm_gets (v := (q.1 31 0)) hx hb hts hin hown hK hW 31 (by decide) (List.mem_of_getElem? (i := 2) rfl) rfl rfl (mq_ne (by decide)) dX8_write_18 ?_
  refine lv_imul hx hb dX8_write_21 ?_
  refine lv_iconst (v := 1) hx hb dX8_write_22 (by decide) ?_
  refine lv_iadd hx hb dX8_write_23 ?_
  refine lv_iload_n hx hb dX8_write_24 rfl (lv_at hl 2 rfl) ?_
  have b_2 : vp_in ((4 * (q.1 31 0)) + 1) 1600 := by
    have k_1 : (4 : Int32).toInt = 4 := rfl
    have u_2 := rg_e (q.1 31 0)
    have k_4 : (1 : Int32).toInt = 1 := rfl
    have w_6 := ha
    have w_7 := hrc
    have u_3 := mu_o 4 4 (q.1 31 0) rfl
    have u_5 := ad_o (4 * (q.1 31 0)) 1
    exact vp_in_iff.mpr (by omega)
  refine mm_iast hx hb hK hW hS 32 1600 rfl b_2 dX8_write_25 (fun H locs hW hS => ?_)
  refine lv_aload_n hx hb dX8_write_26 rfl (lv_at hl 0 rfl) ?_
  refine mm_get (v := .ref (ad 21 32)) hx hb hts hin hown hK hW 32 (by decide) (List.mem_of_getElem? (i := 1) rfl) rfl rfl dX8_write_27 ?_
  refine lv_iconst (v := 4) hx hb dX8_write_30 (by decide) ?_
  refine lv_aload_n hx hb dX8_write_31 rfl (lv_at hl 0 rfl) ?_
  refine mm_gets (v := (q.1 31 0)) hx hb hts hin hown hK hW 31 (by decide) (List.mem_of_getElem? (i := 2) rfl) rfl rfl ((mq_ne (by decide)).trans (mq_ne (by decide))) dX8_write_32 ?_
  refine lv_imul hx hb dX8_write_35 ?_
  refine lv_iconst (v := 2) hx hb dX8_write_36 (by decide) ?_
  refine lv_iadd hx hb dX8_write_37 ?_
  refine lv_iload_n hx hb dX8_write_38 rfl (lv_at hl 3 rfl) ?_
  have b_3 : vp_in ((4 * (q.1 31 0)) + 2) 1600 := by
    have k_1 : (4 : Int32).toInt = 4 := rfl
    have u_2 := rg_e (q.1 31 0)
    have k_4 : (2 : Int32).toInt = 2 := rfl
    have w_6 := ha
    have w_7 := hrc
    have u_3 := mu_o 4 4 (q.1 31 0) rfl
    have u_5 := ad_o (4 * (q.1 31 0)) 2
    exact vp_in_iff.mpr (by omega)
  refine mm_iast hx hb hK hW hS 32 1600 rfl b_3 dX8_write_39 (fun H locs hW hS => ?_)
  refine lv_aload_n hx hb dX8_write_40 rfl (lv_at hl 0 rfl) ?_
  refine mm_get (v := .ref (ad 21 32)) hx hb hts hin hown hK hW 32 (by decide) (List.mem_of_getElem? (i := 1) rfl) rfl rfl dX8_write_41 ?_
  refine lv_iconst (v := 4) hx hb dX8_write_44 (by decide) ?_
  refine lv_aload_n hx hb dX8_write_45 rfl (lv_at hl 0 rfl) ?_
  refine mm_gets (v := (q.1 31 0)) hx hb hts hin hown hK hW 31 (by decide) (List.mem_of_getElem? (i := 2) rfl) rfl rfl ((mq_ne (by decide)).trans ((mq_ne (by decide)).trans (mq_ne (by decide)))) dX8_write_46 ?_
  refine lv_imul hx hb dX8_write_49 ?_
  refine lv_iconst (v := 3) hx hb dX8_write_50 (by decide) ?_
  refine lv_iadd hx hb dX8_write_51 ?_
  refine lv_iload hx hb dX8_write_52 (lv_at hl 4 rfl) ?_
  have b_4 : vp_in ((4 * (q.1 31 0)) + 3) 1600 := by
    have k_1 : (4 : Int32).toInt = 4 := rfl
    have u_2 := rg_e (q.1 31 0)
    have k_4 : (3 : Int32).toInt = 3 := rfl
    have w_6 := ha
    have w_7 := hrc
    have u_3 := mu_o 4 4 (q.1 31 0) rfl
    have u_5 := ad_o (4 * (q.1 31 0)) 3
    exact vp_in_iff.mpr (by omega)
  refine mm_iast hx hb hK hW hS 32 1600 rfl b_4 dX8_write_54 (fun H locs hW hS => ?_)
  refine lv_aload_n hx hb dX8_write_55 rfl (lv_at hl 0 rfl) ?_
  refine mm_get (v := .ref (ad 21 33)) hx hb hts hin hown hK hW 33 (by decide) (List.mem_of_getElem? (i := 3) rfl) rfl rfl dX8_write_56 ?_
  refine lv_aload_n hx hb dX8_write_59 rfl (lv_at hl 0 rfl) ?_
  refine mm_gets (v := (q.1 31 0)) hx hb hts hin hown hK hW 31 (by decide) (List.mem_of_getElem? (i := 2) rfl) rfl rfl ((mq_ne (by decide)).trans ((mq_ne (by decide)).trans ((mq_ne (by decide)).trans (mq_ne (by decide))))) dX8_write_60 ?_
  refine lv_aload_n hx hb dX8_write_63 rfl (lv_at hl 0 rfl) ?_
  refine lv_aload_n hx hb dX8_write_64 rfl (lv_at hl 0 rfl) ?_
  refine mm_gets (v := (q.1 31 0)) hx hb hts hin hown hK hW 31 (by decide) (List.mem_of_getElem? (i := 2) rfl) rfl rfl ((mq_ne (by decide)).trans ((mq_ne (by decide)).trans ((mq_ne (by decide)).trans (mq_ne (by decide))))) dX8_write_65 ?_
  have h_5 : 0 ≤ ((q.1 31 0) : Int32).toInt ∧ ((q.1 31 0) : Int32).toInt ≤ 399 := by
    exact ha
  have h_6 : 0 ≤ ((mq_i (mq_i (mq_i (mq_i q 32 (Int32.toNatClampNeg (4 * (q.1 31 0))) kind) 32 (Int32.toNatClampNeg ((4 * (q.1 31 0)) + 1)) na) 32 (Int32.toNatClampNeg ((4 * (q.1 31 0)) + 2)) nb) 32 (Int32.toNatClampNeg ((4 * (q.1 31 0)) + 3)) nc).1 12 0).toInt ∧ ((mq_i (mq_i (mq_i (mq_i q 32 (Int32.toNatClampNeg (4 * (q.1 31 0))) kind) 32 (Int32.toNatClampNeg ((4 * (q.1 31 0)) + 1)) na) 32 (Int32.toNatClampNeg ((4 * (q.1 31 0)) + 2)) nb) 32 (Int32.toNatClampNeg ((4 * (q.1 31 0)) + 3)) nc).1 12 0).toInt ≤ 64 := by
    rw [show (mq_i (mq_i (mq_i (mq_i q 32 (Int32.toNatClampNeg (4 * (q.1 31 0))) kind) 32 (Int32.toNatClampNeg ((4 * (q.1 31 0)) + 1)) na) 32 (Int32.toNatClampNeg ((4 * (q.1 31 0)) + 2)) nb) 32 (Int32.toNatClampNeg ((4 * (q.1 31 0)) + 3)) nc).1 12 0 = (q.1 12 0) from ((mq_ne (by decide)).trans ((mq_ne (by decide)).trans ((mq_ne (by decide)).trans (mq_ne (by decide)))))]
    exact hrc
  refine mm_callVl (n := 1) (As := [.int (q.1 31 0)]) (rest := [.int (q.1 31 0), .ref (ad 21 33)]) (r := (m_X8_linkOf (mq_i (mq_i (mq_i (mq_i q 32 (Int32.toNatClampNeg (4 * (q.1 31 0))) kind) 32 (Int32.toNatClampNeg ((4 * (q.1 31 0)) + 1)) na) 32 (Int32.toNatClampNeg ((4 * (q.1 31 0)) + 2)) nb) 32 (Int32.toNatClampNeg ((4 * (q.1 31 0)) + 3)) nc) (q.1 31 0))) (q2 := (mq_i (mq_i (mq_i (mq_i q 32 (Int32.toNatClampNeg (4 * (q.1 31 0))) kind) 32 (Int32.toNatClampNeg ((4 * (q.1 31 0)) + 1)) na) 32 (Int32.toNatClampNeg ((4 * (q.1 31 0)) + 2)) nb) 32 (Int32.toNatClampNeg ((4 * (q.1 31 0)) + 3)) nc)) ⟨hx, hb, hml, hown, hts⟩ (c_X8_linkOf l D b0 Pc cA ad (mq_i (mq_i (mq_i (mq_i q 32 (Int32.toNatClampNeg (4 * (q.1 31 0))) kind) 32 (Int32.toNatClampNeg ((4 * (q.1 31 0)) + 1)) na) 32 (Int32.toNatClampNeg ((4 * (q.1 31 0)) + 2)) nb) 32 (Int32.toNatClampNeg ((4 * (q.1 31 0)) + 3)) nc) (q.1 31 0) h_5 h_6) gX8_write_X8_linkOf rfl (by decide +kernel) rfl ⟨Nat.le_of_ble_eq_true rfl, Nat.le_of_ble_eq_true rfl⟩ ⟨Nat.le_of_ble_eq_true rfl, Nat.le_of_ble_eq_true rfl⟩ hK hW hS hl.1 rfl (Nat.le_of_ble_eq_true rfl) dX8_write_68 (fun H locs hW hS => ?_)
  have b_7 : vp_in (q.1 31 0) 400 := by
    have u_1 := rg_e (q.1 31 0)
    have w_2 := ha
    have w_3 := hrc
    exact vp_in_iff.mpr (by omega)
  refine mm_last hx hb hK hW hS 33 400 rfl b_7 dX8_write_71 (fun H locs hW hS => ?_)
  refine lv_aload_n hx hb dX8_write_72 rfl (lv_at hl 0 rfl) ?_
  refine lv_dup hx hb dX8_write_73 rfl ?_
  refine mm_gets (v := (q.1 31 0)) hx hb hts hin hown hK hW 31 (by decide) (List.mem_of_getElem? (i := 2) rfl) rfl rfl ((mq_nel).trans ((mq_ne (by decide)).trans ((mq_ne (by decide)).trans ((mq_ne (by decide)).trans (mq_ne (by decide)))))) dX8_write_74 ?_
  refine lv_iconst (v := 1) hx hb dX8_write_77 (by decide) ?_
  refine lv_iadd hx hb dX8_write_78 ?_
  refine mm_put hx hb hts hin hown hK hW hS 31 (by decide) (List.mem_of_getElem? (i := 2) rfl) rfl rfl (by decide +kernel) rfl (ws_31 ad _ _) dX8_write_79 (fun H locs hW hS => ?_)
  exact mm_vret hx hb hr hlk hK hW hS (by rw [m_X8_write]) dX8_write_82
end
section
def m_X8_officer (q : qM) (k : Int32) (right : Int32) : qM := (if (m_X8_isIn k 0 7) = 0 then (mq_i q 0 0 1) else (if (m_X8_isIn right 0 7) = 0 then (mq_i q 0 0 2) else (mq_i (mq_i q 0 0 0) 1 (Int32.toNatClampNeg k) right)))
set_option maxHeartbeats 4000000 in
set_option maxRecDepth 100000 in
theorem c_X8_officer (l : Launch) (D : va_G) (b0 : Nat) (Pc : Nat → Nat → Option va_E) (cA : Nat → ClassId) (ad : Nat → Nat → Nat) (q : qM) (k : Int32) (right : Int32) : mc_v l yX8_officer wsX8_officer 1 22 D b0 Pc cA ad q [.ref (ad 20 0), .int k, .int right] (m_X8_officer q k right) := by
  refine mc_of (by decide) rfl (Nat.le_of_ble_eq_true rfl) ?_
  intro p e s m below meth c hx hb hml hr hlk hown hts hK hW ls hl
  have hown : s.vm.findClass RX8 = some m.cls := hown
  have hS : va_S (wA b0) s.heap s.heap [] := va_S.rf
  have hl : lv_has ls 3 [(0, .ref (ad 20 0)), (1, .int k), (2, .int right)] := hl
  have hin : ∀ w ∈ wsX80, w ∈ wsX8_officer := fun w h => List.mem_cons_of_mem _ (List.mem_append_right _ h)
  refine lv_aload_n hx hb dX8_officer_0 rfl (lv_at hl 0 rfl) ?_
  refine lv_iload_n hx hb dX8_officer_1 rfl (lv_at hl 1 rfl) ?_
  refine lv_iconst (v := 0) hx hb dX8_officer_2 (by decide) ?_
  refine lv_bipush (v := 7) hx hb dX8_officer_3 (by decide) ?_
  refine mm_callSi (n := 3) (As := [.int k, .int 0, .int 7]) (rest := [.ref (ad 20 0)]) (r := (m_X8_isIn k 0 7)) (q2 := q) ⟨hx, hb, hml, hown, hts⟩ (c_X8_isIn l D b0 Pc cA ad q k 0 7) gX8_officer_X8_isIn rfl (by decide +kernel) rfl ⟨Nat.le_of_ble_eq_true rfl, Nat.le_of_ble_eq_true rfl⟩ ⟨Nat.le_of_ble_eq_true rfl, Nat.le_of_ble_eq_true rfl⟩ hK hW hS hl.1 rfl (Nat.le_of_ble_eq_true rfl) dX8_officer_5 (fun H locs hW hS => ?_)
  refine lv_if_ne (tgt := 15) hx hb dX8_officer_8 (by decide) (fun c_1 => ?_) (fun c_1 => ?_)
  · refine lv_iload_n hx hb dX8_officer_15 rfl (lv_at hl 2 rfl) ?_
    refine lv_iconst (v := 0) hx hb dX8_officer_16 (by decide) ?_
    refine lv_bipush (v := 7) hx hb dX8_officer_17 (by decide) ?_
    refine mm_callSi (n := 3) (As := [.int right, .int 0, .int 7]) (rest := [.ref (ad 20 0)]) (r := (m_X8_isIn right 0 7)) (q2 := q) ⟨hx, hb, hml, hown, hts⟩ (c_X8_isIn l D b0 Pc cA ad q right 0 7) gX8_officer_X8_isIn rfl (by decide +kernel) rfl ⟨Nat.le_of_ble_eq_true rfl, Nat.le_of_ble_eq_true rfl⟩ ⟨Nat.le_of_ble_eq_true rfl, Nat.le_of_ble_eq_true rfl⟩ hK hW hS hl.1 rfl (Nat.le_of_ble_eq_true rfl) dX8_officer_19 (fun H locs hW hS => ?_)
    refine lv_if_eq (tgt := 29) hx hb dX8_officer_22 (by decide) (fun c_2 => ?_) (fun c_2 => ?_)
    · refine lv_iconst (v := 2) hx hb dX8_officer_29 (by decide) ?_
      refine mm_put hx hb hts hin hown hK hW hS 0 (by decide) (List.mem_of_getElem? (i := 1) rfl) rfl rfl (by decide +kernel) rfl (ws_0 ad _ _) dX8_officer_30 (fun H locs hW hS => ?_)
      refine lv_aload_n hx hb dX8_officer_33 rfl (lv_at hl 0 rfl) ?_
      refine mm_gets (v := 2) hx hb hts hin hown hK hW 0 (by decide) (List.mem_of_getElem? (i := 1) rfl) rfl rfl (mq_same q 0 0 2) dX8_officer_34 ?_
      refine lv_if_ne (tgt := 47) hx hb dX8_officer_37 (by decide) (fun _ => ?_) (fun h => absurd h (by decide))
      exact mm_vret hx hb hr hlk hK hW hS (by rw [m_X8_officer, if_neg c_1, if_pos c_2]) dX8_officer_47
    · refine lv_iconst (v := 0) hx hb dX8_officer_25 (by decide) ?_
      refine lv_goto (tgt := 30) hx hb dX8_officer_26 (by decide) ?_
      refine mm_put hx hb hts hin hown hK hW hS 0 (by decide) (List.mem_of_getElem? (i := 1) rfl) rfl rfl (by decide +kernel) rfl (ws_0 ad _ _) dX8_officer_30 (fun H locs hW hS => ?_)
      refine lv_aload_n hx hb dX8_officer_33 rfl (lv_at hl 0 rfl) ?_
      refine mm_gets (v := 0) hx hb hts hin hown hK hW 0 (by decide) (List.mem_of_getElem? (i := 1) rfl) rfl rfl (mq_same q 0 0 0) dX8_officer_34 ?_
      refine lv_if_ne (tgt := 47) hx hb dX8_officer_37 (by decide) (fun h => absurd h (by decide)) (fun _ => ?_)
      refine lv_aload_n hx hb dX8_officer_40 rfl (lv_at hl 0 rfl) ?_
      refine mm_get (v := .ref (ad 21 1)) hx hb hts hin hown hK hW 1 (by decide) (List.mem_of_getElem? (i := 2) rfl) rfl rfl dX8_officer_41 ?_
      refine lv_iload_n hx hb dX8_officer_44 rfl (lv_at hl 1 rfl) ?_
      refine lv_iload_n hx hb dX8_officer_45 rfl (lv_at hl 2 rfl) ?_
      have b_3 : vp_in k 8 := by
        have u_1 := rg_e k
        have u_2 := rg_e (m_X8_isIn k 0 7)
        have k_3 : (0 : Int32).toInt = 0 := rfl
        have v_4 := cv_ne c_1
        have k_5 : (7 : Int32).toInt = 7 := rfl
        have v_6 := is_t c_1
        have u_7 := rg_e (m_X8_isIn right 0 7)
        have v_8 := cv_ne c_2
        have u_9 := rg_e right
        have v_10 := is_t c_2
        exact vp_in_iff.mpr (by omega)
      refine mm_iast hx hb hK hW hS 1 8 rfl b_3 dX8_officer_46 (fun H locs hW hS => ?_)
      exact mm_vret hx hb hr hlk hK hW hS (by rw [m_X8_officer, if_neg c_1, if_neg c_2]) dX8_officer_47
  · refine lv_iconst (v := 1) hx hb dX8_officer_11 (by decide) ?_
    refine lv_goto (tgt := 30) hx hb dX8_officer_12 (by decide) ?_
    refine mm_put hx hb hts hin hown hK hW hS 0 (by decide) (List.mem_of_getElem? (i := 1) rfl) rfl rfl (by decide +kernel) rfl (ws_0 ad _ _) dX8_officer_30 (fun H locs hW hS => ?_)
    refine lv_aload_n hx hb dX8_officer_33 rfl (lv_at hl 0 rfl) ?_
    refine mm_gets (v := 1) hx hb hts hin hown hK hW 0 (by decide) (List.mem_of_getElem? (i := 1) rfl) rfl rfl (mq_same q 0 0 1) dX8_officer_34 ?_
    refine lv_if_ne (tgt := 47) hx hb dX8_officer_37 (by decide) (fun _ => ?_) (fun h => absurd h (by decide))
    exact mm_vret hx hb hr hlk hK hW hS (by rw [m_X8_officer, if_pos c_1]) dX8_officer_47
end
section
def m_X8_isVersion (q : qM) (cl : Int32) (event : Int32) (years : Int32) (months : Int32) (day : Int32) : Int32 := (if (q.1 5 (Int32.toNatClampNeg cl)) = 0 then (if (m_X8_isIn event 0 3) = 0 then 0 else (if (m_X8_isTerm years months) = 0 then 0 else (if (m_X8_isIn day 0 120000) = 0 then 0 else 1))) else (if event = (q.1 4 (Int32.toNatClampNeg cl)) then (if day < (q.1 7 (Int32.toNatClampNeg (((6 * cl) + (q.1 5 (Int32.toNatClampNeg cl))) - 1))) then (if (m_X8_isIn event 0 3) = 0 then 0 else (if (m_X8_isTerm years months) = 0 then 0 else (if (m_X8_isIn day 0 120000) = 0 then 0 else 0))) else (if (m_X8_isIn event 0 3) = 0 then 0 else (if (m_X8_isTerm years months) = 0 then 0 else (if (m_X8_isIn day 0 120000) = 0 then 0 else 1)))) else (if (m_X8_isIn event 0 3) = 0 then 0 else (if (m_X8_isTerm years months) = 0 then 0 else (if (m_X8_isIn day 0 120000) = 0 then 0 else 0)))))
set_option maxHeartbeats 4000000 in
set_option maxRecDepth 100000 in
theorem c_X8_isVersion (l : Launch) (D : va_G) (b0 : Nat) (Pc : Nat → Nat → Option va_E) (cA : Nat → ClassId) (ad : Nat → Nat → Nat) (q : qM) (cl : Int32) (event : Int32) (years : Int32) (months : Int32) (day : Int32) (hc : 0 ≤ (cl : Int32).toInt ∧ (cl : Int32).toInt ≤ 7) (hI : gI q) : mc_i l yX8_isVersion wsX8_isVersion 2 43 D b0 Pc cA ad q [.ref (ad 20 0), .int cl, .int event, .int years, .int months, .int day] (m_X8_isVersion q cl event years months day, q) := by
  refine mc_of (by decide) rfl (Nat.le_of_ble_eq_true rfl) ?_
  intro p e s m below meth c hx hb hml hr hlk hown hts hK hW ls hl
  have hown : s.vm.findClass RX8 = some m.cls := hown
  have hS : va_S (wA b0) s.heap s.heap [] := va_S.rf
  have hl : lv_has ls 8 [(0, .ref (ad 20 0)), (1, .int cl), (2, .int event), (3, .int years), (4, .int months), (5, .int day)] := hl
  have hin : ∀ w ∈ wsX80, w ∈ wsX8_isVersion := fun w h => List.mem_cons_of_mem _ (List.mem_append_right _ h)
  refine lv_aload_n hx hb dX8_isVersion_0 rfl (lv_at hl 0 rfl) ?_
  refine mm_get (v := .ref (ad 21 5)) hx hb hts hin hown hK hW 5 (by decide) (List.mem_of_getElem? (i := 1) rfl) rfl rfl dX8_isVersion_1 ?_
  refine lv_iload_n hx hb dX8_isVersion_4 rfl (lv_at hl 1 rfl) ?_
  have b_1 : vp_in cl 8 := by
    have u_1 := rg_e cl
    have w_2 := hc
    have w_3 := hI.1 (Int32.toNatClampNeg cl)
    exact vp_in_iff.mpr (by omega)
  refine mm_iald (v := (q.1 5 (Int32.toNatClampNeg cl))) hx hb hK hW 5 8 rfl b_1 ((rfl)) dX8_isVersion_5 ?_
  refine lv_istore (lv' := [(6, .int (q.1 5 (Int32.toNatClampNeg cl))), (0, .ref (ad 20 0)), (1, .int cl), (2, .int event), (3, .int years), (4, .int months), (5, .int day)]) hx hb dX8_isVersion_6 hl (by decide) rfl (fun ls hl => ?_)
  refine lv_iload hx hb dX8_isVersion_8 (lv_at hl 0 rfl) ?_
  refine lv_if_eq (tgt := 42) hx hb dX8_isVersion_10 (by decide) (fun c_2 => ?_) (fun c_2 => ?_)
  · refine lv_iconst (v := 1) hx hb dX8_isVersion_42 (by decide) ?_
    refine lv_goto (tgt := 47) hx hb dX8_isVersion_43 (by decide) ?_
    refine lv_istore (lv' := [(7, .int 1), (6, .int (q.1 5 (Int32.toNatClampNeg cl))), (0, .ref (ad 20 0)), (1, .int cl), (2, .int event), (3, .int years), (4, .int months), (5, .int day)]) hx hb dX8_isVersion_47 hl (by decide) rfl (fun ls hl => ?_)
    refine lv_iload_n hx hb dX8_isVersion_49 rfl (lv_at hl 4 rfl) ?_
    refine lv_iconst (v := 0) hx hb dX8_isVersion_50 (by decide) ?_
    refine lv_iconst (v := 3) hx hb dX8_isVersion_51 (by decide) ?_
    refine mm_callSi (n := 3) (As := [.int event, .int 0, .int 3]) (rest := []) (r := (m_X8_isIn event 0 3)) (q2 := q) ⟨hx, hb, hml, hown, hts⟩ (c_X8_isIn l D b0 Pc cA ad q event 0 3) gX8_isVersion_X8_isIn rfl (by decide +kernel) rfl ⟨Nat.le_of_ble_eq_true rfl, Nat.le_of_ble_eq_true rfl⟩ ⟨Nat.le_of_ble_eq_true rfl, Nat.le_of_ble_eq_true rfl⟩ hK hW hS hl.1 rfl (Nat.le_of_ble_eq_true rfl) dX8_isVersion_52 (fun H locs hW hS => ?_)
    refine lv_if_eq (tgt := 87) hx hb dX8_isVersion_55 (by decide) (fun c_3 => ?_) (fun c_3 => ?_)
    · refine lv_iconst (v := 0) hx hb dX8_isVersion_87 (by decide) ?_
      exact mm_zret hx hb hr hlk hK hW hS rfl (by rw [m_X8_isVersion, if_pos c_2, if_pos c_3]) dX8_isVersion_88
    · refine lv_iload_n hx hb dX8_isVersion_58 rfl (lv_at hl 5 rfl) ?_
      refine lv_iload hx hb dX8_isVersion_59 (lv_at hl 6 rfl) ?_
      refine mm_callSi (n := 2) (As := [.int years, .int months]) (rest := []) (r := (m_X8_isTerm years months)) (q2 := q) ⟨hx, hb, hml, hown, hts⟩ (c_X8_isTerm l D b0 Pc cA ad q years months) gX8_isVersion_X8_isTerm rfl (by decide +kernel) rfl ⟨Nat.le_of_ble_eq_true rfl, Nat.le_of_ble_eq_true rfl⟩ ⟨Nat.le_of_ble_eq_true rfl, Nat.le_of_ble_eq_true rfl⟩ hK hW hS hl.1 rfl (Nat.le_of_ble_eq_true rfl) dX8_isVersion_61 (fun H locs hW hS => ?_)
      refine lv_if_eq (tgt := 87) hx hb dX8_isVersion_64 (by decide) (fun c_4 => ?_) (fun c_4 => ?_)
      · refine lv_iconst (v := 0) hx hb dX8_isVersion_87 (by decide) ?_
        exact mm_zret hx hb hr hlk hK hW hS rfl (by rw [m_X8_isVersion, if_pos c_2, if_neg c_3, if_pos c_4]) dX8_isVersion_88
      · refine lv_iload hx hb dX8_isVersion_67 (lv_at hl 7 rfl) ?_
        refine lv_iconst (v := 0) hx hb dX8_isVersion_69 (by decide) ?_
        refine lv_ldc (v := 120000) hx hb hown (hts _ (List.mem_of_getElem? (i := 4) rfl)) dX8_isVersion_70 ?_
        refine mm_callSi (n := 3) (As := [.int day, .int 0, .int 120000]) (rest := []) (r := (m_X8_isIn day 0 120000)) (q2 := q) ⟨hx, hb, hml, hown, hts⟩ (c_X8_isIn l D b0 Pc cA ad q day 0 120000) gX8_isVersion_X8_isIn rfl (by decide +kernel) rfl ⟨Nat.le_of_ble_eq_true rfl, Nat.le_of_ble_eq_true rfl⟩ ⟨Nat.le_of_ble_eq_true rfl, Nat.le_of_ble_eq_true rfl⟩ hK hW hS hl.1 rfl (Nat.le_of_ble_eq_true rfl) dX8_isVersion_72 (fun H locs hW hS => ?_)
        refine lv_if_eq (tgt := 87) hx hb dX8_isVersion_75 (by decide) (fun c_5 => ?_) (fun c_5 => ?_)
        · refine lv_iconst (v := 0) hx hb dX8_isVersion_87 (by decide) ?_
          exact mm_zret hx hb hr hlk hK hW hS rfl (by rw [m_X8_isVersion, if_pos c_2, if_neg c_3, if_neg c_4, if_pos c_5]) dX8_isVersion_88
        · refine lv_iload hx hb dX8_isVersion_78 (lv_at hl 0 rfl) ?_
          refine lv_if_eq (tgt := 87) hx hb dX8_isVersion_80 (by decide) (fun h => absurd h (by decide)) (fun _ => ?_)
          refine lv_iconst (v := 1) hx hb dX8_isVersion_83 (by decide) ?_
          refine lv_goto (tgt := 88) hx hb dX8_isVersion_84 (by decide) ?_
          exact mm_zret hx hb hr hlk hK hW hS rfl (by rw [m_X8_isVersion, if_pos c_2, if_neg c_3, if_neg c_4, if_neg c_5]) dX8_isVersion_88
  · refine lv_iload_n hx hb dX8_isVersion_13 rfl (lv_at hl 3 rfl) ?_
    refine lv_aload_n hx hb dX8_isVersion_14 rfl (lv_at hl 1 rfl) ?_
    refine mm_get (v := .ref (ad 21 4)) hx hb hts hin hown hK hW 4 (by decide) (List.mem_of_getElem? (i := 2) rfl) rfl rfl dX8_isVersion_15 ?_
    refine lv_iload_n hx hb dX8_isVersion_18 rfl (lv_at hl 2 rfl) ?_
    have b_6 : vp_in cl 8 := by
      have u_1 := rg_e cl
      have u_2 := rg_e (q.1 5 (Int32.toNatClampNeg cl))
      have k_3 : (0 : Int32).toInt = 0 := rfl
      have v_4 := cv_ne c_2
      have w_5 := hc
      have w_6 := hI.1 (Int32.toNatClampNeg cl)
      exact vp_in_iff.mpr (by omega)
    refine mm_iald (v := (q.1 4 (Int32.toNatClampNeg cl))) hx hb hK hW 4 8 rfl b_6 ((rfl)) dX8_isVersion_19 ?_
    refine lv_icmp_ne (tgt := 46) hx hb dX8_isVersion_20 (by decide) (fun c_7 => ?_) (fun c_7 => ?_)
    · refine lv_iconst (v := 0) hx hb dX8_isVersion_46 (by decide) ?_
      refine lv_istore (lv' := [(7, .int 0), (6, .int (q.1 5 (Int32.toNatClampNeg cl))), (0, .ref (ad 20 0)), (1, .int cl), (2, .int event), (3, .int years), (4, .int months), (5, .int day)]) hx hb dX8_isVersion_47 hl (by decide) rfl (fun ls hl => ?_)
      refine lv_iload_n hx hb dX8_isVersion_49 rfl (lv_at hl 4 rfl) ?_
      refine lv_iconst (v := 0) hx hb dX8_isVersion_50 (by decide) ?_
      refine lv_iconst (v := 3) hx hb dX8_isVersion_51 (by decide) ?_
      refine mm_callSi (n := 3) (As := [.int event, .int 0, .int 3]) (rest := []) (r := (m_X8_isIn event 0 3)) (q2 := q) ⟨hx, hb, hml, hown, hts⟩ (c_X8_isIn l D b0 Pc cA ad q event 0 3) gX8_isVersion_X8_isIn rfl (by decide +kernel) rfl ⟨Nat.le_of_ble_eq_true rfl, Nat.le_of_ble_eq_true rfl⟩ ⟨Nat.le_of_ble_eq_true rfl, Nat.le_of_ble_eq_true rfl⟩ hK hW hS hl.1 rfl (Nat.le_of_ble_eq_true rfl) dX8_isVersion_52 (fun H locs hW hS => ?_)
      refine lv_if_eq (tgt := 87) hx hb dX8_isVersion_55 (by decide) (fun c_8 => ?_) (fun c_8 => ?_)
      · refine lv_iconst (v := 0) hx hb dX8_isVersion_87 (by decide) ?_
        exact mm_zret hx hb hr hlk hK hW hS rfl (by rw [m_X8_isVersion, if_neg c_2, if_neg c_7, if_pos c_8]) dX8_isVersion_88
      · refine lv_iload_n hx hb dX8_isVersion_58 rfl (lv_at hl 5 rfl) ?_
        refine lv_iload hx hb dX8_isVersion_59 (lv_at hl 6 rfl) ?_
        refine mm_callSi (n := 2) (As := [.int years, .int months]) (rest := []) (r := (m_X8_isTerm years months)) (q2 := q) ⟨hx, hb, hml, hown, hts⟩ (c_X8_isTerm l D b0 Pc cA ad q years months) gX8_isVersion_X8_isTerm rfl (by decide +kernel) rfl ⟨Nat.le_of_ble_eq_true rfl, Nat.le_of_ble_eq_true rfl⟩ ⟨Nat.le_of_ble_eq_true rfl, Nat.le_of_ble_eq_true rfl⟩ hK hW hS hl.1 rfl (Nat.le_of_ble_eq_true rfl) dX8_isVersion_61 (fun H locs hW hS => ?_)
        refine lv_if_eq (tgt := 87) hx hb dX8_isVersion_64 (by decide) (fun c_9 => ?_) (fun c_9 => ?_)
        · refine lv_iconst (v := 0) hx hb dX8_isVersion_87 (by decide) ?_
          exact mm_zret hx hb hr hlk hK hW hS rfl (by rw [m_X8_isVersion, if_neg c_2, if_neg c_7, if_neg c_8, if_pos c_9]) dX8_isVersion_88
        · refine lv_iload hx hb dX8_isVersion_67 (lv_at hl 7 rfl) ?_
          refine lv_iconst (v := 0) hx hb dX8_isVersion_69 (by decide) ?_
          refine lv_ldc (v := 120000) hx hb hown (hts _ (List.mem_of_getElem? (i := 4) rfl)) dX8_isVersion_70 ?_
          refine mm_callSi (n := 3) (As := [.int day, .int 0, .int 120000]) (rest := []) (r := (m_X8_isIn day 0 120000)) (q2 := q) ⟨hx, hb, hml, hown, hts⟩ (c_X8_isIn l D b0 Pc cA ad q day 0 120000) gX8_isVersion_X8_isIn rfl (by decide +kernel) rfl ⟨Nat.le_of_ble_eq_true rfl, Nat.le_of_ble_eq_true rfl⟩ ⟨Nat.le_of_ble_eq_true rfl, Nat.le_of_ble_eq_true rfl⟩ hK hW hS hl.1 rfl (Nat.le_of_ble_eq_true rfl) dX8_isVersion_72 (fun H locs hW hS => ?_)
          refine lv_if_eq (tgt := 87) hx hb dX8_isVersion_75 (by decide) (fun c_10 => ?_) (fun c_10 => ?_)
          · refine lv_iconst (v := 0) hx hb dX8_isVersion_87 (by decide) ?_
            exact mm_zret hx hb hr hlk hK hW hS rfl (by rw [m_X8_isVersion, if_neg c_2, if_neg c_7, if_neg c_8, if_neg c_9, if_pos c_10]) dX8_isVersion_88
          · refine lv_iload hx hb dX8_isVersion_78 (lv_at hl 0 rfl) ?_
            refine lv_if_eq (tgt := 87) hx hb dX8_isVersion_80 (by decide) (fun _ => ?_) (fun h => absurd h (by decide))
            refine lv_iconst (v := 0) hx hb dX8_isVersion_87 (by decide) ?_
            exact mm_zret hx hb hr hlk hK hW hS rfl (by rw [m_X8_isVersion, if_neg c_2, if_neg c_7, if_neg c_8, if_neg c_9, if_neg c_10]) dX8_isVersion_88
    · refine lv_iload hx hb dX8_isVersion_23 (lv_at hl 6 rfl) ?_
      refine lv_aload_n hx hb dX8_isVersion_25 rfl (lv_at hl 1 rfl) ?_
      refine mm_get (v := .ref (ad 21 7)) hx hb hts hin hown hK hW 7 (by decide) (List.mem_of_getElem? (i := 3) rfl) rfl rfl dX8_isVersion_26 ?_
      refine lv_bipush (v := 6) hx hb dX8_isVersion_29 (by decide) ?_
      refine lv_iload_n hx hb dX8_isVersion_31 rfl (lv_at hl 2 rfl) ?_
      refine lv_imul hx hb dX8_isVersion_32 ?_
      refine lv_iload hx hb dX8_isVersion_33 (lv_at hl 0 rfl) ?_
      refine lv_iadd hx hb dX8_isVersion_35 ?_
      refine lv_iconst (v := 1) hx hb dX8_isVersion_36 (by decide) ?_
      refine lv_isub hx hb dX8_isVersion_37 ?_
      have b_11 : vp_in (((6 * cl) + (q.1 5 (Int32.toNatClampNeg cl))) - 1) 48 := by
        have k_1 : (6 : Int32).toInt = 6 := rfl
        have u_2 := rg_e cl
        have u_4 := rg_e (q.1 5 (Int32.toNatClampNeg cl))
        have k_6 : (1 : Int32).toInt = 1 := rfl
        have k_8 : (0 : Int32).toInt = 0 := rfl
        have v_9 := cv_ne c_2
        have u_10 := rg_e event
        have u_11 := rg_e (q.1 4 (Int32.toNatClampNeg cl))
        have v_12 := cv_eq c_7
        have w_13 := hc
        have w_14 := hI.1 (Int32.toNatClampNeg cl)
        have u_3 := mu_o 6 6 cl rfl
        have u_5 := ad_o (6 * cl) (q.1 5 (Int32.toNatClampNeg cl))
        have u_7 := su_o ((6 * cl) + (q.1 5 (Int32.toNatClampNeg cl))) 1
        exact vp_in_iff.mpr (by omega)
      refine mm_iald (v := (q.1 7 (Int32.toNatClampNeg (((6 * cl) + (q.1 5 (Int32.toNatClampNeg cl))) - 1)))) hx hb hK hW 7 48 rfl b_11 ((rfl)) dX8_isVersion_38 ?_
      refine lv_icmp_lt (tgt := 46) hx hb dX8_isVersion_39 (by decide) (fun c_12 => ?_) (fun c_12 => ?_)
      · refine lv_iconst (v := 0) hx hb dX8_isVersion_46 (by decide) ?_
        refine lv_istore (lv' := [(7, .int 0), (6, .int (q.1 5 (Int32.toNatClampNeg cl))), (0, .ref (ad 20 0)), (1, .int cl), (2, .int event), (3, .int years), (4, .int months), (5, .int day)]) hx hb dX8_isVersion_47 hl (by decide) rfl (fun ls hl => ?_)
        refine lv_iload_n hx hb dX8_isVersion_49 rfl (lv_at hl 4 rfl) ?_
        refine lv_iconst (v := 0) hx hb dX8_isVersion_50 (by decide) ?_
        refine lv_iconst (v := 3) hx hb dX8_isVersion_51 (by decide) ?_
        refine mm_callSi (n := 3) (As := [.int event, .int 0, .int 3]) (rest := []) (r := (m_X8_isIn event 0 3)) (q2 := q) ⟨hx, hb, hml, hown, hts⟩ (c_X8_isIn l D b0 Pc cA ad q event 0 3) gX8_isVersion_X8_isIn rfl (by decide +kernel) rfl ⟨Nat.le_of_ble_eq_true rfl, Nat.le_of_ble_eq_true rfl⟩ ⟨Nat.le_of_ble_eq_true rfl, Nat.le_of_ble_eq_true rfl⟩ hK hW hS hl.1 rfl (Nat.le_of_ble_eq_true rfl) dX8_isVersion_52 (fun H locs hW hS => ?_)
        refine lv_if_eq (tgt := 87) hx hb dX8_isVersion_55 (by decide) (fun c_13 => ?_) (fun c_13 => ?_)
        · refine lv_iconst (v := 0) hx hb dX8_isVersion_87 (by decide) ?_
          exact mm_zret hx hb hr hlk hK hW hS rfl (by rw [m_X8_isVersion, if_neg c_2, if_pos c_7, if_pos c_12, if_pos c_13]) dX8_isVersion_88
        · refine lv_iload_n hx hb dX8_isVersion_58 rfl (lv_at hl 5 rfl) ?_
          refine lv_iload hx hb dX8_isVersion_59 (lv_at hl 6 rfl) ?_
          refine mm_callSi (n := 2) (As := [.int years, .int months]) (rest := []) (r := (m_X8_isTerm years months)) (q2 := q) ⟨hx, hb, hml, hown, hts⟩ (c_X8_isTerm l D b0 Pc cA ad q years months) gX8_isVersion_X8_isTerm rfl (by decide +kernel) rfl ⟨Nat.le_of_ble_eq_true rfl, Nat.le_of_ble_eq_true rfl⟩ ⟨Nat.le_of_ble_eq_true rfl, Nat.le_of_ble_eq_true rfl⟩ hK hW hS hl.1 rfl (Nat.le_of_ble_eq_true rfl) dX8_isVersion_61 (fun H locs hW hS => ?_)
          refine lv_if_eq (tgt := 87) hx hb dX8_isVersion_64 (by decide) (fun c_14 => ?_) (fun c_14 => ?_)
          · refine lv_iconst (v := 0) hx hb dX8_isVersion_87 (by decide) ?_
            exact mm_zret hx hb hr hlk hK hW hS rfl (by rw [m_X8_isVersion, if_neg c_2, if_pos c_7, if_pos c_12, if_neg c_13, if_pos c_14]) dX8_isVersion_88
          · refine lv_iload hx hb dX8_isVersion_67 (lv_at hl 7 rfl) ?_
            refine lv_iconst (v := 0) hx hb dX8_isVersion_69 (by decide) ?_
            refine lv_ldc (v := 120000) hx hb hown (hts _ (List.mem_of_getElem? (i := 4) rfl)) dX8_isVersion_70 ?_
            refine mm_callSi (n := 3) (As := [.int day, .int 0, .int 120000]) (rest := []) (r := (m_X8_isIn day 0 120000)) (q2 := q) ⟨hx, hb, hml, hown, hts⟩ (c_X8_isIn l D b0 Pc cA ad q day 0 120000) gX8_isVersion_X8_isIn rfl (by decide +kernel) rfl ⟨Nat.le_of_ble_eq_true rfl, Nat.le_of_ble_eq_true rfl⟩ ⟨Nat.le_of_ble_eq_true rfl, Nat.le_of_ble_eq_true rfl⟩ hK hW hS hl.1 rfl (Nat.le_of_ble_eq_true rfl) dX8_isVersion_72 (fun H locs hW hS => ?_)
            refine lv_if_eq (tgt := 87) hx hb dX8_isVersion_75 (by decide) (fun c_15 => ?_) (fun c_15 => ?_)
            · refine lv_iconst (v := 0) hx hb dX8_isVersion_87 (by decide) ?_
              exact mm_zret hx hb hr hlk hK hW hS rfl (by rw [m_X8_isVersion, if_neg c_2, if_pos c_7, if_pos c_12, if_neg c_13, if_neg c_14, if_pos c_15]) dX8_isVersion_88
            · refine lv_iload hx hb dX8_isVersion_78 (lv_at hl 0 rfl) ?_
              refine lv_if_eq (tgt := 87) hx hb dX8_isVersion_80 (by decide) (fun _ => ?_) (fun h => absurd h (by decide))
              refine lv_iconst (v := 0) hx hb dX8_isVersion_87 (by decide) ?_
              exact mm_zret hx hb hr hlk hK hW hS rfl (by rw [m_X8_isVersion, if_neg c_2, if_pos c_7, if_pos c_12, if_neg c_13, if_neg c_14, if_neg c_15]) dX8_isVersion_88
      · refine lv_iconst (v := 1) hx hb dX8_isVersion_42 (by decide) ?_
        refine lv_goto (tgt := 47) hx hb dX8_isVersion_43 (by decide) ?_
        refine lv_istore (lv' := [(7, .int 1), (6, .int (q.1 5 (Int32.toNatClampNeg cl))), (0, .ref (ad 20 0)), (1, .int cl), (2, .int event), (3, .int years), (4, .int months), (5, .int day)]) hx hb dX8_isVersion_47 hl (by decide) rfl (fun ls hl => ?_)
        refine lv_iload_n hx hb dX8_isVersion_49 rfl (lv_at hl 4 rfl) ?_
        refine lv_iconst (v := 0) hx hb dX8_isVersion_50 (by decide) ?_
        refine lv_iconst (v := 3) hx hb dX8_isVersion_51 (by decide) ?_
        refine mm_callSi (n := 3) (As := [.int event, .int 0, .int 3]) (rest := []) (r := (m_X8_isIn event 0 3)) (q2 := q) ⟨hx, hb, hml, hown, hts⟩ (c_X8_isIn l D b0 Pc cA ad q event 0 3) gX8_isVersion_X8_isIn rfl (by decide +kernel) rfl ⟨Nat.le_of_ble_eq_true rfl, Nat.le_of_ble_eq_true rfl⟩ ⟨Nat.le_of_ble_eq_true rfl, Nat.le_of_ble_eq_true rfl⟩ hK hW hS hl.1 rfl (Nat.le_of_ble_eq_true rfl) dX8_isVersion_52 (fun H locs hW hS => ?_)
        refine lv_if_eq (tgt := 87) hx hb dX8_isVersion_55 (by decide) (fun c_16 => ?_) (fun c_16 => ?_)
        · refine lv_iconst (v := 0) hx hb dX8_isVersion_87 (by decide) ?_
          exact mm_zret hx hb hr hlk hK hW hS rfl (by rw [m_X8_isVersion, if_neg c_2, if_pos c_7, if_neg c_12, if_pos c_16]) dX8_isVersion_88
        · refine lv_iload_n hx hb dX8_isVersion_58 rfl (lv_at hl 5 rfl) ?_
          refine lv_iload hx hb dX8_isVersion_59 (lv_at hl 6 rfl) ?_
          refine mm_callSi (n := 2) (As := [.int years, .int months]) (rest := []) (r := (m_X8_isTerm years months)) (q2 := q) ⟨hx, hb, hml, hown, hts⟩ (c_X8_isTerm l D b0 Pc cA ad q years months) gX8_isVersion_X8_isTerm rfl (by decide +kernel) rfl ⟨Nat.le_of_ble_eq_true rfl, Nat.le_of_ble_eq_true rfl⟩ ⟨Nat.le_of_ble_eq_true rfl, Nat.le_of_ble_eq_true rfl⟩ hK hW hS hl.1 rfl (Nat.le_of_ble_eq_true rfl) dX8_isVersion_61 (fun H locs hW hS => ?_)
          refine lv_if_eq (tgt := 87) hx hb dX8_isVersion_64 (by decide) (fun c_17 => ?_) (fun c_17 => ?_)
          · refine lv_iconst (v := 0) hx hb dX8_isVersion_87 (by decide) ?_
            exact mm_zret hx hb hr hlk hK hW hS rfl (by rw [m_X8_isVersion, if_neg c_2, if_pos c_7, if_neg c_12, if_neg c_16, if_pos c_17]) dX8_isVersion_88
          · refine lv_iload hx hb dX8_isVersion_67 (lv_at hl 7 rfl) ?_
            refine lv_iconst (v := 0) hx hb dX8_isVersion_69 (by decide) ?_
            refine lv_ldc (v := 120000) hx hb hown (hts _ (List.mem_of_getElem? (i := 4) rfl)) dX8_isVersion_70 ?_
            refine mm_callSi (n := 3) (As := [.int day, .int 0, .int 120000]) (rest := []) (r := (m_X8_isIn day 0 120000)) (q2 := q) ⟨hx, hb, hml, hown, hts⟩ (c_X8_isIn l D b0 Pc cA ad q day 0 120000) gX8_isVersion_X8_isIn rfl (by decide +kernel) rfl ⟨Nat.le_of_ble_eq_true rfl, Nat.le_of_ble_eq_true rfl⟩ ⟨Nat.le_of_ble_eq_true rfl, Nat.le_of_ble_eq_true rfl⟩ hK hW hS hl.1 rfl (Nat.le_of_ble_eq_true rfl) dX8_isVersion_72 (fun H locs hW hS => ?_)
            refine lv_if_eq (tgt := 87) hx hb dX8_isVersion_75 (by decide) (fun c_18 => ?_) (fun c_18 => ?_)
            · refine lv_iconst (v := 0) hx hb dX8_isVersion_87 (by decide) ?_
              exact mm_zret hx hb hr hlk hK hW hS rfl (by rw [m_X8_isVersion, if_neg c_2, if_pos c_7, if_neg c_12, if_neg c_16, if_neg c_17, if_pos c_18]) dX8_isVersion_88
            · refine lv_iload hx hb dX8_isVersion_78 (lv_at hl 0 rfl) ?_
              refine lv_if_eq (tgt := 87) hx hb dX8_isVersion_80 (by decide) (fun h => absurd h (by decide)) (fun _ => ?_)
              refine lv_iconst (v := 1) hx hb dX8_isVersion_83 (by decide) ?_
              refine lv_goto (tgt := 88) hx hb dX8_isVersion_84 (by decide) ?_
              exact mm_zret hx hb hr hlk hK hW hS rfl (by rw [m_X8_isVersion, if_neg c_2, if_pos c_7, if_neg c_12, if_neg c_16, if_neg c_17, if_neg c_18]) dX8_isVersion_88
end
section
def m_X8_version (q : qM) (cl : Int32) (event : Int32) (years : Int32) (months : Int32) (all : Int32) (day : Int32) : Int32 × qM := (if (m_X8_isIn cl 0 7) = 0 then (0, (mq_i q 0 0 1)) else (if (m_X8_isVersion q cl event years months day) = 0 then (0, (mq_i q 0 0 2)) else (if (q.1 5 (Int32.toNatClampNeg cl)) = 6 then (0, (mq_i q 0 0 3)) else (if (m_X8_hasRoom q 1) = 0 then (0, (mq_i q 0 0 3)) else (((m_X8_write (mq_i (mq_i (mq_i (mq_i (mq_i (mq_i q 0 0 0) 4 (Int32.toNatClampNeg cl) event) 6 (Int32.toNatClampNeg ((6 * cl) + (q.1 5 (Int32.toNatClampNeg cl)))) ((12 * years) + months)) 7 (Int32.toNatClampNeg ((6 * cl) + (q.1 5 (Int32.toNatClampNeg cl)))) day) 8 (Int32.toNatClampNeg ((6 * cl) + (q.1 5 (Int32.toNatClampNeg cl)))) all) 5 (Int32.toNatClampNeg cl) ((q.1 5 (Int32.toNatClampNeg cl)) + 1)) 1 cl ((12 * years) + months) day).1 5 (Int32.toNatClampNeg cl)), (m_X8_write (mq_i (mq_i (mq_i (mq_i (mq_i (mq_i q 0 0 0) 4 (Int32.toNatClampNeg cl) event) 6 (Int32.toNatClampNeg ((6 * cl) + (q.1 5 (Int32.toNatClampNeg cl)))) ((12 * years) + months)) 7 (Int32.toNatClampNeg ((6 * cl) + (q.1 5 (Int32.toNatClampNeg cl)))) day) 8 (Int32.toNatClampNeg ((6 * cl) + (q.1 5 (Int32.toNatClampNeg cl)))) all) 5 (Int32.toNatClampNeg cl) ((q.1 5 (Int32.toNatClampNeg cl)) + 1)) 1 cl ((12 * years) + months) day))))))
set_option maxHeartbeats 4000000 in
set_option maxRecDepth 100000 in
theorem c_X8_version (l : Launch) (D : va_G) (b0 : Nat) (Pc : Nat → Nat → Option va_E) (cA : Nat → ClassId) (ad : Nat → Nat → Nat) (q : qM) (cl : Int32) (event : Int32) (years : Int32) (months : Int32) (all : Int32) (day : Int32) (hbo : vp_nar .boolean all = all) (hI : gI q) (hL : lI q) : mc_i l yX8_version wsX8_version 3 74 D b0 Pc cA ad q [.ref (ad 20 0), .int cl, .int event, .int years, .int months, .int all, .int day] (m_X8_version q cl event years months all day) := by
  refine mc_of (by decide) rfl (Nat.le_of_ble_eq_true rfl) ?_
  intro p e s m below meth c hx hb hml hr hlk hown hts hK hW ls hl
  have hown : s.vm.findClass RX8 = some m.cls := hown
  have hS : va_S (wA b0) s.heap s.heap [] := va_S.rf
  have hl : lv_has ls 8 [(0, .ref (ad 20 0)), (1, .int cl), (2, .int event), (3, .int years), (4, .int months), (5, .int all), (6, .int day)] := hl
  have hin : ∀ w ∈ wsX80, w ∈ wsX8_version := fun w h => List.mem_cons_of_mem _ (List.mem_append_right _ h)
  refine lv_aload_n hx hb dX8_version_0 rfl (lv_at hl 0 rfl) ?_
  refine lv_iload_n hx hb dX8_version_1 rfl (lv_at hl 1 rfl) ?_
  refine lv_iconst (v := 0) hx hb dX8_version_2 (by decide) ?_
  refine lv_bipush (v := 7) hx hb dX8_version_3 (by decide) ?_
  refine mm_callSi (n := 3) (As := [.int cl, .int 0, .int 7]) (rest := [.ref (ad 20 0)]) (r := (m_X8_isIn cl 0 7)) (q2 := q) ⟨hx, hb, hml, hown, hts⟩ (c_X8_isIn l D b0 Pc cA ad q cl 0 7) gX8_version_X8_isIn rfl (by decide +kernel) rfl ⟨Nat.le_of_ble_eq_true rfl, Nat.le_of_ble_eq_true rfl⟩ ⟨Nat.le_of_ble_eq_true rfl, Nat.le_of_ble_eq_true rfl⟩ hK hW hS hl.1 rfl (Nat.le_of_ble_eq_true rfl) dX8_version_5 (fun H locs hW hS => ?_)
  refine lv_if_ne (tgt := 15) hx hb dX8_version_8 (by decide) (fun c_1 => ?_) (fun c_1 => ?_)
  · refine lv_aload_n hx hb dX8_version_15 rfl (lv_at hl 0 rfl) ?_
    refine lv_iload_n hx hb dX8_version_16 rfl (lv_at hl 1 rfl) ?_
    refine lv_iload_n hx hb dX8_version_17 rfl (lv_at hl 2 rfl) ?_
    refine lv_iload_n hx hb dX8_version_18 rfl (lv_at hl 3 rfl) ?_
    refine lv_iload hx hb dX8_version_19 (lv_at hl 4 rfl) ?_
    refine lv_iload hx hb dX8_version_21 (lv_at hl 6 rfl) ?_
    have h_2 : 0 ≤ (cl : Int32).toInt ∧ (cl : Int32).toInt ≤ 7 := by
      have u_1 := rg_e cl
      have u_2 := rg_e event
      have u_3 := rg_e years
      have u_4 := rg_e months
      have u_5 := rg_e day
      have u_6 := rg_e (m_X8_isIn cl 0 7)
      have k_7 : (0 : Int32).toInt = 0 := rfl
      have v_8 := cv_ne c_1
      have k_9 : (7 : Int32).toInt = 7 := rfl
      have v_10 := is_t c_1
      have w_11 := hI.1 (Int32.toNatClampNeg cl)
      have w_12 := hL.2.2.2.2.2
      exact by omega
    refine mm_callVi (n := 5) (As := [.int cl, .int event, .int years, .int months, .int day]) (rest := [.ref (ad 20 0)]) (r := (m_X8_isVersion q cl event years months day)) (q2 := q) ⟨hx, hb, hml, hown, hts⟩ (c_X8_isVersion l D b0 Pc cA ad q cl event years months day h_2 hI) gX8_version_X8_isVersion rfl (by decide +kernel) rfl ⟨Nat.le_of_ble_eq_true rfl, Nat.le_of_ble_eq_true rfl⟩ ⟨Nat.le_of_ble_eq_true rfl, Nat.le_of_ble_eq_true rfl⟩ hK hW hS hl.1 rfl (Nat.le_of_ble_eq_true rfl) dX8_version_23 (fun H locs hW hS => ?_)
    refine lv_if_ne (tgt := 33) hx hb dX8_version_26 (by decide) (fun c_3 => ?_) (fun c_3 => ?_)
    · refine lv_aload_n hx hb dX8_version_33 rfl (lv_at hl 0 rfl) ?_
      refine mm_get (v := .ref (ad 21 5)) hx hb hts hin hown hK hW 5 (by decide) (List.mem_of_getElem? (i := 1) rfl) rfl rfl dX8_version_34 ?_
      refine lv_iload_n hx hb dX8_version_37 rfl (lv_at hl 1 rfl) ?_
      have b_4 : vp_in cl 8 := by
        have u_1 := rg_e cl
        have u_2 := rg_e (m_X8_isIn cl 0 7)
        have k_3 : (0 : Int32).toInt = 0 := rfl
        have v_4 := cv_ne c_1
        have k_5 : (7 : Int32).toInt = 7 := rfl
        have v_6 := is_t c_1
        have u_7 := rg_e (m_X8_isVersion q cl event years months day)
        have v_8 := cv_ne c_3
        have w_9 := hI.1 (Int32.toNatClampNeg cl)
        have w_10 := hL.2.2.2.2.2
        exact vp_in_iff.mpr (by omega)
      refine mm_iald (v := (q.1 5 (Int32.toNatClampNeg cl))) hx hb hK hW 5 8 rfl b_4 ((rfl)) dX8_version_38 ?_
      refine lv_bipush (v := 6) hx hb dX8_version_39 (by decide) ?_
      refine lv_icmp_eq (tgt := 52) hx hb dX8_version_41 (by decide) (fun c_5 => ?_) (fun c_5 => ?_)
      · refine lv_iconst (v := 3) hx hb dX8_version_52 (by decide) ?_
        refine lv_goto (tgt := 57) hx hb dX8_version_53 (by decide) ?_
        refine mm_put hx hb hts hin hown hK hW hS 0 (by decide) (List.mem_of_getElem? (i := 2) rfl) rfl rfl (by decide +kernel) rfl (ws_0 ad _ _) dX8_version_57 (fun H locs hW hS => ?_)
        refine lv_aload_n hx hb dX8_version_60 rfl (lv_at hl 0 rfl) ?_
        refine mm_gets (v := 3) hx hb hts hin hown hK hW 0 (by decide) (List.mem_of_getElem? (i := 2) rfl) rfl rfl (mq_same q 0 0 3) dX8_version_61 ?_
        refine lv_if_le (tgt := 69) hx hb dX8_version_64 (by decide) (fun h => absurd h (by decide)) (fun _ => ?_)
        refine lv_iconst (v := 0) hx hb dX8_version_67 (by decide) ?_
        exact mm_iret hx hb hr hlk hK hW hS (by rw [m_X8_version, if_neg c_1, if_neg c_3, if_pos c_5]) dX8_version_68
      · refine lv_aload_n hx hb dX8_version_44 rfl (lv_at hl 0 rfl) ?_
        refine lv_iconst (v := 1) hx hb dX8_version_45 (by decide) ?_
        refine mm_callVi (n := 1) (As := [.int 1]) (rest := [.ref (ad 20 0)]) (r := (m_X8_hasRoom q 1)) (q2 := q) ⟨hx, hb, hml, hown, hts⟩ (c_X8_hasRoom l D b0 Pc cA ad q 1) gX8_version_X8_hasRoom rfl (by decide +kernel) rfl ⟨Nat.le_of_ble_eq_true rfl, Nat.le_of_ble_eq_true rfl⟩ ⟨Nat.le_of_ble_eq_true rfl, Nat.le_of_ble_eq_true rfl⟩ hK hW hS hl.1 rfl (Nat.le_of_ble_eq_true rfl) dX8_version_46 (fun H locs hW hS => ?_)
        refine lv_if_ne (tgt := 56) hx hb dX8_version_49 (by decide) (fun c_6 => ?_) (fun c_6 => ?_)
        · refine lv_iconst (v := 0) hx hb dX8_version_56 (by decide) ?_
          refine mm_put hx hb hts hin hown hK hW hS 0 (by decide) (List.mem_of_getElem? (i := 2) rfl) rfl rfl (by decide +kernel) rfl (ws_0 ad _ _) dX8_version_57 (fun H locs hW hS => ?_)
          refine lv_aload_n hx hb dX8_version_60 rfl (lv_at hl 0 rfl) ?_
          refine mm_gets (v := 0) hx hb hts hin hown hK hW 0 (by decide) (List.mem_of_getElem? (i := 2) rfl) rfl rfl (mq_same q 0 0 0) dX8_version_61 ?_
          refine lv_if_le (tgt := 69) hx hb dX8_version_64 (by decide) (fun _ => ?_) (fun h => absurd h (by decide))
          refine lv_bipush (v := 6) hx hb dX8_version_69 (by decide) ?_
          refine lv_iload_n hx hb dX8_version_71 rfl (lv_at hl 1 rfl) ?_
          refine lv_imul hx hb dX8_version_72 ?_
          refine lv_aload_n hx hb dX8_version_73 rfl (lv_at hl 0 rfl) ?_
          refine mm_get (v := .ref (ad 21 5)) hx hb hts hin hown hK hW 5 (by decide) (List.mem_of_getElem? (i := 1) rfl) rfl rfl dX8_version_74 ?_
          refine lv_iload_n hx hb dX8_version_77 rfl (lv_at hl 1 rfl) ?_
          have b_7 : vp_in cl 8 := by
            have u_1 := rg_e cl
            have u_2 := rg_e (m_X8_isIn cl 0 7)
            have k_3 : (0 : Int32).toInt = 0 := rfl
            have v_4 := cv_ne c_1
            have k_5 : (7 : Int32).toInt = 7 := rfl
            have v_6 := is_t c_1
            have u_7 := rg_e (m_X8_isVersion q cl event years months day)
            have v_8 := cv_ne c_3
            have u_9 := rg_e (q.1 5 (Int32.toNatClampNeg cl))
            have k_10 : (6 : Int32).toInt = 6 := rfl
            have v_11 := cv_ne c_5
            have u_12 := rg_e (m_X8_hasRoom q 1)
            have v_13 := cv_ne c_6
            have k_14 : (1 : Int32).toInt = 1 := rfl
            have v_15 := hr_t c_6
            have w_16 := hI.1 (Int32.toNatClampNeg cl)
            have w_17 := hL.2.2.2.2.2
            exact vp_in_iff.mpr (by omega)
          refine mm_iald (v := (q.1 5 (Int32.toNatClampNeg cl))) hx hb hK hW 5 8 rfl b_7 ((mq_ne (by decide))) dX8_version_78 ?_
          refine lv_iadd hx hb dX8_version_79 ?_
          refine lv_istore (lv' := [(7, .int ((6 * cl) + (q.1 5 (Int32.toNatClampNeg cl)))), (0, .ref (ad 20 0)), (1, .int cl), (2, .int event), (3, .int years), (4, .int months), (5, .int all), (6, .int day)]) hx hb dX8_version_80 hl (by decide) rfl (fun ls hl => ?_)
          refine lv_aload_n hx hb dX8_version_82 rfl (lv_at hl 1 rfl) ?_
          refine mm_get (v := .ref (ad 21 4)) hx hb hts hin hown hK hW 4 (by decide) (List.mem_of_getElem? (i := 3) rfl) rfl rfl dX8_version_83 ?_
          refine lv_iload_n hx hb dX8_version_86 rfl (lv_at hl 2 rfl) ?_
          refine lv_iload_n hx hb dX8_version_87 rfl (lv_at hl 3 rfl) ?_
          have b_8 : vp_in cl 8 := by
            have u_1 := rg_e cl
            have u_2 := rg_e (m_X8_isIn cl 0 7)
            have k_3 : (0 : Int32).toInt = 0 := rfl
            have v_4 := cv_ne c_1
            have k_5 : (7 : Int32).toInt = 7 := rfl
            have v_6 := is_t c_1
            have u_7 := rg_e (m_X8_isVersion q cl event years months day)
            have v_8 := cv_ne c_3
            have u_9 := rg_e (q.1 5 (Int32.toNatClampNeg cl))
            have k_10 : (6 : Int32).toInt = 6 := rfl
            have v_11 := cv_ne c_5
            have u_12 := rg_e (m_X8_hasRoom q 1)
            have v_13 := cv_ne c_6
            have k_14 : (1 : Int32).toInt = 1 := rfl
            have v_15 := hr_t c_6
            have w_16 := hI.1 (Int32.toNatClampNeg cl)
            have w_17 := hL.2.2.2.2.2
            exact vp_in_iff.mpr (by omega)
          refine mm_iast hx hb hK hW hS 4 8 rfl b_8 dX8_version_88 (fun H locs hW hS => ?_)
          refine lv_aload_n hx hb dX8_version_89 rfl (lv_at hl 1 rfl) ?_
          refine mm_get (v := .ref (ad 21 6)) hx hb hts hin hown hK hW 6 (by decide) (List.mem_of_getElem? (i := 4) rfl) rfl rfl dX8_version_90 ?_
          refine lv_iload hx hb dX8_version_93 (lv_at hl 0 rfl) ?_
          refine lv_bipush (v := 12) hx hb dX8_version_95 (by decide) ?_
          refine lv_iload_n hx hb dX8_version_97 rfl (lv_at hl 4 rfl) ?_
          refine lv_imul hx hb dX8_version_98 ?_
          refine lv_iload hx hb dX8_version_99 (lv_at hl 5 rfl) ?_
          refine lv_iadd hx hb dX8_version_101 ?_
          have b_9 : vp_in ((6 * cl) + (q.1 5 (Int32.toNatClampNeg cl))) 48 := by
            have k_1 : (6 : Int32).toInt = 6 := rfl
            have u_2 := rg_e cl
            have u_4 := rg_e (q.1 5 (Int32.toNatClampNeg cl))
            have u_6 := rg_e (m_X8_isIn cl 0 7)
            have k_7 : (0 : Int32).toInt = 0 := rfl
            have v_8 := cv_ne c_1
            have k_9 : (7 : Int32).toInt = 7 := rfl
            have v_10 := is_t c_1
            have u_11 := rg_e (m_X8_isVersion q cl event years months day)
            have v_12 := cv_ne c_3
            have v_13 := cv_ne c_5
            have u_14 := rg_e (m_X8_hasRoom q 1)
            have v_15 := cv_ne c_6
            have k_16 : (1 : Int32).toInt = 1 := rfl
            have v_17 := hr_t c_6
            have w_18 := hI.1 (Int32.toNatClampNeg cl)
            have w_19 := hL.2.2.2.2.2
            have u_3 := mu_o 6 6 cl rfl
            have u_5 := ad_o (6 * cl) (q.1 5 (Int32.toNatClampNeg cl))
            exact vp_in_iff.mpr (by omega)
          refine mm_iast hx hb hK hW hS 6 48 rfl b_9 dX8_version_102 (fun H locs hW hS => ?_)
          refine lv_aload_n hx hb dX8_version_103 rfl (lv_at hl 1 rfl) ?_
          refine mm_get (v := .ref (ad 21 7)) hx hb hts hin hown hK hW 7 (by decide) (List.mem_of_getElem? (i := 5) rfl) rfl rfl dX8_version_104 ?_
          refine lv_iload hx hb dX8_version_107 (lv_at hl 0 rfl) ?_
          refine lv_iload hx hb dX8_version_109 (lv_at hl 7 rfl) ?_
          have b_10 : vp_in ((6 * cl) + (q.1 5 (Int32.toNatClampNeg cl))) 48 := by
            have k_1 : (6 : Int32).toInt = 6 := rfl
            have u_2 := rg_e cl
            have u_4 := rg_e (q.1 5 (Int32.toNatClampNeg cl))
            have u_6 := rg_e (m_X8_isIn cl 0 7)
            have k_7 : (0 : Int32).toInt = 0 := rfl
            have v_8 := cv_ne c_1
            have k_9 : (7 : Int32).toInt = 7 := rfl
            have v_10 := is_t c_1
            have u_11 := rg_e (m_X8_isVersion q cl event years months day)
            have v_12 := cv_ne c_3
            have v_13 := cv_ne c_5
            have u_14 := rg_e (m_X8_hasRoom q 1)
            have v_15 := cv_ne c_6
            have k_16 : (1 : Int32).toInt = 1 := rfl
            have v_17 := hr_t c_6
            have w_18 := hI.1 (Int32.toNatClampNeg cl)
            have w_19 := hL.2.2.2.2.2
            have u_3 := mu_o 6 6 cl rfl
            have u_5 := ad_o (6 * cl) (q.1 5 (Int32.toNatClampNeg cl))
            exact vp_in_iff.mpr (by omega)
          refine mm_iast hx hb hK hW hS 7 48 rfl b_10 dX8_version_111 (fun H locs hW hS => ?_)
          refine lv_aload_n hx hb dX8_version_112 rfl (lv_at hl 1 rfl) ?_
          refine mm_get (v := .ref (ad 21 8)) hx hb hts hin hown hK hW 8 (by decide) (List.mem_of_getElem? (i := 6) rfl) rfl rfl dX8_version_113 ?_
          refine lv_iload hx hb dX8_version_116 (lv_at hl 0 rfl) ?_
          refine lv_iload hx hb dX8_version_118 (lv_at hl 6 rfl) ?_
          have b_11 : vp_in ((6 * cl) + (q.1 5 (Int32.toNatClampNeg cl))) 48 := by
            have k_1 : (6 : Int32).toInt = 6 := rfl
            have u_2 := rg_e cl
            have u_4 := rg_e (q.1 5 (Int32.toNatClampNeg cl))
            have u_6 := rg_e (m_X8_isIn cl 0 7)
            have k_7 : (0 : Int32).toInt = 0 := rfl
            have v_8 := cv_ne c_1
            have k_9 : (7 : Int32).toInt = 7 := rfl
            have v_10 := is_t c_1
            have u_11 := rg_e (m_X8_isVersion q cl event years months day)
            have v_12 := cv_ne c_3
            have v_13 := cv_ne c_5
            have u_14 := rg_e (m_X8_hasRoom q 1)
            have v_15 := cv_ne c_6
            have k_16 : (1 : Int32).toInt = 1 := rfl
            have v_17 := hr_t c_6
            have w_18 := hI.1 (Int32.toNatClampNeg cl)
            have w_19 := hL.2.2.2.2.2
            have u_3 := mu_o 6 6 cl rfl
            have u_5 := ad_o (6 * cl) (q.1 5 (Int32.toNatClampNeg cl))
            exact vp_in_iff.mpr (by omega)
          refine mm_zast hx hb hK hW hS 8 48 rfl hbo b_11 dX8_version_120 (fun H locs hW hS => ?_)
          refine lv_aload_n hx hb dX8_version_121 rfl (lv_at hl 1 rfl) ?_
          refine mm_get (v := .ref (ad 21 5)) hx hb hts hin hown hK hW 5 (by decide) (List.mem_of_getElem? (i := 1) rfl) rfl rfl dX8_version_122 ?_
          refine lv_iload_n hx hb dX8_version_125 rfl (lv_at hl 2 rfl) ?_
          refine lv_dup2_11 hx hb dX8_version_126 rfl rfl ?_
          have b_12 : vp_in cl 8 := by
            have u_1 := rg_e cl
            have u_2 := rg_e (m_X8_isIn cl 0 7)
            have k_3 : (0 : Int32).toInt = 0 := rfl
            have v_4 := cv_ne c_1
            have k_5 : (7 : Int32).toInt = 7 := rfl
            have v_6 := is_t c_1
            have u_7 := rg_e (m_X8_isVersion q cl event years months day)
            have v_8 := cv_ne c_3
            have u_9 := rg_e (q.1 5 (Int32.toNatClampNeg cl))
            have k_10 : (6 : Int32).toInt = 6 := rfl
            have v_11 := cv_ne c_5
            have u_12 := rg_e (m_X8_hasRoom q 1)
            have v_13 := cv_ne c_6
            have k_14 : (1 : Int32).toInt = 1 := rfl
            have v_15 := hr_t c_6
            have w_16 := hI.1 (Int32.toNatClampNeg cl)
            have w_17 := hL.2.2.2.2.2
            exact vp_in_iff.mpr (by omega)
          refine mm_iald (v := (q.1 5 (Int32.toNatClampNeg cl))) hx hb hK hW 5 8 rfl b_12 (((mq_ne (by decide)).trans ((mq_ne (by decide)).trans ((mq_ne (by decide)).trans ((mq_ne (by decide)).trans (mq_ne (by decide))))))) dX8_version_127 ?_
          refine lv_iconst (v := 1) hx hb dX8_version_128 (by decide) ?_
          refine lv_iadd hx hb dX8_version_129 ?_
          have b_13 : vp_in cl 8 := by
            have u_1 := rg_e cl
            have u_2 := rg_e (m_X8_isIn cl 0 7)
            have k_3 : (0 : Int32).toInt = 0 := rfl
            have v_4 := cv_ne c_1
            have k_5 : (7 : Int32).toInt = 7 := rfl
            have v_6 := is_t c_1
            have u_7 := rg_e (m_X8_isVersion q cl event years months day)
            have v_8 := cv_ne c_3
            have u_9 := rg_e (q.1 5 (Int32.toNatClampNeg cl))
            have k_10 : (6 : Int32).toInt = 6 := rfl
            have v_11 := cv_ne c_5
            have u_12 := rg_e (m_X8_hasRoom q 1)
            have v_13 := cv_ne c_6
            have k_14 : (1 : Int32).toInt = 1 := rfl
            have v_15 := hr_t c_6
            have w_16 := hI.1 (Int32.toNatClampNeg cl)
            have w_17 := hL.2.2.2.2.2
            exact vp_in_iff.mpr (by omega)
          refine mm_iast hx hb hK hW hS 5 8 rfl b_13 dX8_version_130 (fun H locs hW hS => ?_)
          refine lv_aload_n hx hb dX8_version_131 rfl (lv_at hl 1 rfl) ?_
          refine lv_iconst (v := 1) hx hb dX8_version_132 (by decide) ?_
          refine lv_iload_n hx hb dX8_version_133 rfl (lv_at hl 2 rfl) ?_
          refine lv_aload_n hx hb dX8_version_134 rfl (lv_at hl 1 rfl) ?_
          refine mm_get (v := .ref (ad 21 6)) hx hb hts hin hown hK hW 6 (by decide) (List.mem_of_getElem? (i := 4) rfl) rfl rfl dX8_version_135 ?_
          refine lv_iload hx hb dX8_version_138 (lv_at hl 0 rfl) ?_
          have b_14 : vp_in ((6 * cl) + (q.1 5 (Int32.toNatClampNeg cl))) 48 := by
            have k_1 : (6 : Int32).toInt = 6 := rfl
            have u_2 := rg_e cl
            have u_4 := rg_e (q.1 5 (Int32.toNatClampNeg cl))
            have u_6 := rg_e (m_X8_isIn cl 0 7)
            have k_7 : (0 : Int32).toInt = 0 := rfl
            have v_8 := cv_ne c_1
            have k_9 : (7 : Int32).toInt = 7 := rfl
            have v_10 := is_t c_1
            have u_11 := rg_e (m_X8_isVersion q cl event years months day)
            have v_12 := cv_ne c_3
            have v_13 := cv_ne c_5
            have u_14 := rg_e (m_X8_hasRoom q 1)
            have v_15 := cv_ne c_6
            have k_16 : (1 : Int32).toInt = 1 := rfl
            have v_17 := hr_t c_6
            have w_18 := hI.1 (Int32.toNatClampNeg cl)
            have w_19 := hL.2.2.2.2.2
            have u_3 := mu_o 6 6 cl rfl
            have u_5 := ad_o (6 * cl) (q.1 5 (Int32.toNatClampNeg cl))
            exact vp_in_iff.mpr (by omega)
          refine mm_iald (v := ((12 * years) + months)) hx hb hK hW 6 48 rfl b_14 (((mq_ne (by decide)).trans ((mq_ne (by decide)).trans ((mq_ne (by decide)).trans (mq_same (mq_i (mq_i q 0 0 0) 4 (Int32.toNatClampNeg cl) event) 6 (Int32.toNatClampNeg ((6 * cl) + (q.1 5 (Int32.toNatClampNeg cl)))) ((12 * years) + months)))))) dX8_version_140 ?_
          refine lv_iload hx hb dX8_version_141 (lv_at hl 7 rfl) ?_
          have h_15 : 0 ≤ ((mq_i (mq_i (mq_i (mq_i (mq_i (mq_i q 0 0 0) 4 (Int32.toNatClampNeg cl) event) 6 (Int32.toNatClampNeg ((6 * cl) + (q.1 5 (Int32.toNatClampNeg cl)))) ((12 * years) + months)) 7 (Int32.toNatClampNeg ((6 * cl) + (q.1 5 (Int32.toNatClampNeg cl)))) day) 8 (Int32.toNatClampNeg ((6 * cl) + (q.1 5 (Int32.toNatClampNeg cl)))) all) 5 (Int32.toNatClampNeg cl) ((q.1 5 (Int32.toNatClampNeg cl)) + 1)).1 31 0).toInt ∧ ((mq_i (mq_i (mq_i (mq_i (mq_i (mq_i q 0 0 0) 4 (Int32.toNatClampNeg cl) event) 6 (Int32.toNatClampNeg ((6 * cl) + (q.1 5 (Int32.toNatClampNeg cl)))) ((12 * years) + months)) 7 (Int32.toNatClampNeg ((6 * cl) + (q.1 5 (Int32.toNatClampNeg cl)))) day) 8 (Int32.toNatClampNeg ((6 * cl) + (q.1 5 (Int32.toNatClampNeg cl)))) all) 5 (Int32.toNatClampNeg cl) ((q.1 5 (Int32.toNatClampNeg cl)) + 1)).1 31 0).toInt ≤ 399 := by
            rw [show (mq_i (mq_i (mq_i (mq_i (mq_i (mq_i q 0 0 0) 4 (Int32.toNatClampNeg cl) event) 6 (Int32.toNatClampNeg ((6 * cl) + (q.1 5 (Int32.toNatClampNeg cl)))) ((12 * years) + months)) 7 (Int32.toNatClampNeg ((6 * cl) + (q.1 5 (Int32.toNatClampNeg cl)))) day) 8 (Int32.toNatClampNeg ((6 * cl) + (q.1 5 (Int32.toNatClampNeg cl)))) all) 5 (Int32.toNatClampNeg cl) ((q.1 5 (Int32.toNatClampNeg cl)) + 1)).1 31 0 = (q.1 31 0) from ((mq_ne (by decide)).trans ((mq_ne (by decide)).trans ((mq_ne (by decide)).trans ((mq_ne (by decide)).trans ((mq_ne (by decide)).trans (mq_ne (by decide)))))))]
            have k_1 : (1 : Int32).toInt = 1 := rfl
            have u_2 := rg_e cl
            have k_3 : (12 : Int32).toInt = 12 := rfl
            have u_4 := rg_e years
            have u_6 := rg_e months
            have u_8 := rg_e day
            have u_9 := rg_e (m_X8_isIn cl 0 7)
            have k_10 : (0 : Int32).toInt = 0 := rfl
            have v_11 := cv_ne c_1
            have k_12 : (7 : Int32).toInt = 7 := rfl
            have v_13 := is_t c_1
            have u_14 := rg_e (m_X8_isVersion q cl event years months day)
            have v_15 := cv_ne c_3
            have u_16 := rg_e (q.1 5 (Int32.toNatClampNeg cl))
            have k_17 : (6 : Int32).toInt = 6 := rfl
            have v_18 := cv_ne c_5
            have u_19 := rg_e (m_X8_hasRoom q 1)
            have v_20 := cv_ne c_6
            have v_21 := hr_t c_6
            have w_22 := hI.1 (Int32.toNatClampNeg cl)
            have w_23 := hL.2.2.2.2.2
            have u_5 := mu_o 12 12 years rfl
            have u_7 := ad_o (12 * years) months
            exact by omega
          have h_16 : 0 ≤ ((mq_i (mq_i (mq_i (mq_i (mq_i (mq_i q 0 0 0) 4 (Int32.toNatClampNeg cl) event) 6 (Int32.toNatClampNeg ((6 * cl) + (q.1 5 (Int32.toNatClampNeg cl)))) ((12 * years) + months)) 7 (Int32.toNatClampNeg ((6 * cl) + (q.1 5 (Int32.toNatClampNeg cl)))) day) 8 (Int32.toNatClampNeg ((6 * cl) + (q.1 5 (Int32.toNatClampNeg cl)))) all) 5 (Int32.toNatClampNeg cl) ((q.1 5 (Int32.toNatClampNeg cl)) + 1)).1 12 0).toInt ∧ ((mq_i (mq_i (mq_i (mq_i (mq_i (mq_i q 0 0 0) 4 (Int32.toNatClampNeg cl) event) 6 (Int32.toNatClampNeg ((6 * cl) + (q.1 5 (Int32.toNatClampNeg cl)))) ((12 * years) + months)) 7 (Int32.toNatClampNeg ((6 * cl) + (q.1 5 (Int32.toNatClampNeg cl)))) day) 8 (Int32.toNatClampNeg ((6 * cl) + (q.1 5 (Int32.toNatClampNeg cl)))) all) 5 (Int32.toNatClampNeg cl) ((q.1 5 (Int32.toNatClampNeg cl)) + 1)).1 12 0).toInt ≤ 64 := by
            rw [show (mq_i (mq_i (mq_i (mq_i (mq_i (mq_i q 0 0 0) 4 (Int32.toNatClampNeg cl) event) 6 (Int32.toNatClampNeg ((6 * cl) + (q.1 5 (Int32.toNatClampNeg cl)))) ((12 * years) + months)) 7 (Int32.toNatClampNeg ((6 * cl) + (q.1 5 (Int32.toNatClampNeg cl)))) day) 8 (Int32.toNatClampNeg ((6 * cl) + (q.1 5 (Int32.toNatClampNeg cl)))) all) 5 (Int32.toNatClampNeg cl) ((q.1 5 (Int32.toNatClampNeg cl)) + 1)).1 12 0 = (q.1 12 0) from ((mq_ne (by decide)).trans ((mq_ne (by decide)).trans ((mq_ne (by decide)).trans ((mq_ne (by decide)).trans ((mq_ne (by decide)).trans (mq_ne (by decide)))))))]
            exact hI.2.2.2.1
          refine mm_callVv (n := 4) (As := [.int 1, .int cl, .int ((12 * years) + months), .int day]) (rest := []) (q2 := (m_X8_write (mq_i (mq_i (mq_i (mq_i (mq_i (mq_i q 0 0 0) 4 (Int32.toNatClampNeg cl) event) 6 (Int32.toNatClampNeg ((6 * cl) + (q.1 5 (Int32.toNatClampNeg cl)))) ((12 * years) + months)) 7 (Int32.toNatClampNeg ((6 * cl) + (q.1 5 (Int32.toNatClampNeg cl)))) day) 8 (Int32.toNatClampNeg ((6 * cl) + (q.1 5 (Int32.toNatClampNeg cl)))) all) 5 (Int32.toNatClampNeg cl) ((q.1 5 (Int32.toNatClampNeg cl)) + 1)) 1 cl ((12 * years) + months) day)) ⟨hx, hb, hml, hown, hts⟩ (c_X8_write l D b0 Pc cA ad (mq_i (mq_i (mq_i (mq_i (mq_i (mq_i q 0 0 0) 4 (Int32.toNatClampNeg cl) event) 6 (Int32.toNatClampNeg ((6 * cl) + (q.1 5 (Int32.toNatClampNeg cl)))) ((12 * years) + months)) 7 (Int32.toNatClampNeg ((6 * cl) + (q.1 5 (Int32.toNatClampNeg cl)))) day) 8 (Int32.toNatClampNeg ((6 * cl) + (q.1 5 (Int32.toNatClampNeg cl)))) all) 5 (Int32.toNatClampNeg cl) ((q.1 5 (Int32.toNatClampNeg cl)) + 1)) 1 cl ((12 * years) + months) day h_15 h_16) gX8_version_X8_write rfl (by decide +kernel) rfl ⟨Nat.le_of_ble_eq_true rfl, Nat.le_of_ble_eq_true rfl⟩ ⟨Nat.le_of_ble_eq_true rfl, Nat.le_of_ble_eq_true rfl⟩ hK hW hS hl.1 rfl (Nat.le_of_ble_eq_true rfl) dX8_version_143 (fun H locs hW hS => ?_)
          refine lv_aload_n hx hb dX8_version_146 rfl (lv_at hl 1 rfl) ?_
          refine mm_get (v := .ref (ad 21 5)) hx hb hts hin hown hK hW 5 (by decide) (List.mem_of_getElem? (i := 1) rfl) rfl rfl dX8_version_147 ?_
          refine lv_iload_n hx hb dX8_version_150 rfl (lv_at hl 2 rfl) ?_
          have b_17 : vp_in cl 8 := by
            have u_1 := rg_e cl
            have u_2 := rg_e (m_X8_isIn cl 0 7)
            have k_3 : (0 : Int32).toInt = 0 := rfl
            have v_4 := cv_ne c_1
            have k_5 : (7 : Int32).toInt = 7 := rfl
            have v_6 := is_t c_1
            have u_7 := rg_e (m_X8_isVersion q cl event years months day)
            have v_8 := cv_ne c_3
            have u_9 := rg_e (q.1 5 (Int32.toNatClampNeg cl))
            have k_10 : (6 : Int32).toInt = 6 := rfl
            have v_11 := cv_ne c_5
            have u_12 := rg_e (m_X8_hasRoom q 1)
            have v_13 := cv_ne c_6
            have k_14 : (1 : Int32).toInt = 1 := rfl
            have v_15 := hr_t c_6
            have w_16 := hI.1 (Int32.toNatClampNeg cl)
            have w_17 := hL.2.2.2.2.2
            exact vp_in_iff.mpr (by omega)
          refine mm_iald (v := ((m_X8_write (mq_i (mq_i (mq_i (mq_i (mq_i (mq_i q 0 0 0) 4 (Int32.toNatClampNeg cl) event) 6 (Int32.toNatClampNeg ((6 * cl) + (q.1 5 (Int32.toNatClampNeg cl)))) ((12 * years) + months)) 7 (Int32.toNatClampNeg ((6 * cl) + (q.1 5 (Int32.toNatClampNeg cl)))) day) 8 (Int32.toNatClampNeg ((6 * cl) + (q.1 5 (Int32.toNatClampNeg cl)))) all) 5 (Int32.toNatClampNeg cl) ((q.1 5 (Int32.toNatClampNeg cl)) + 1)) 1 cl ((12 * years) + months) day).1 5 (Int32.toNatClampNeg cl))) hx hb hK hW 5 8 rfl b_17 ((rfl)) dX8_version_151 ?_
          exact mm_iret hx hb hr hlk hK hW hS (by rw [m_X8_version, if_neg c_1, if_neg c_3, if_neg c_5, if_neg c_6]) dX8_version_152
        · refine lv_iconst (v := 3) hx hb dX8_version_52 (by decide) ?_
          refine lv_goto (tgt := 57) hx hb dX8_version_53 (by decide) ?_
          refine mm_put hx hb hts hin hown hK hW hS 0 (by decide) (List.mem_of_getElem? (i := 2) rfl) rfl rfl (by decide +kernel) rfl (ws_0 ad _ _) dX8_version_57 (fun H locs hW hS => ?_)
          refine lv_aload_n hx hb dX8_version_60 rfl (lv_at hl 0 rfl) ?_
          refine mm_gets (v := 3) hx hb hts hin hown hK hW 0 (by decide) (List.mem_of_getElem? (i := 2) rfl) rfl rfl (mq_same q 0 0 3) dX8_version_61 ?_
          refine lv_if_le (tgt := 69) hx hb dX8_version_64 (by decide) (fun h => absurd h (by decide)) (fun _ => ?_)
          refine lv_iconst (v := 0) hx hb dX8_version_67 (by decide) ?_
          exact mm_iret hx hb hr hlk hK hW hS (by rw [m_X8_version, if_neg c_1, if_neg c_3, if_neg c_5, if_pos c_6]) dX8_version_68
    · refine lv_iconst (v := 2) hx hb dX8_version_29 (by decide) ?_
      refine lv_goto (tgt := 57) hx hb dX8_version_30 (by decide) ?_
      refine mm_put hx hb hts hin hown hK hW hS 0 (by decide) (List.mem_of_getElem? (i := 2) rfl) rfl rfl (by decide +kernel) rfl (ws_0 ad _ _) dX8_version_57 (fun H locs hW hS => ?_)
      refine lv_aload_n hx hb dX8_version_60 rfl (lv_at hl 0 rfl) ?_
      refine mm_gets (v := 2) hx hb hts hin hown hK hW 0 (by decide) (List.mem_of_getElem? (i := 2) rfl) rfl rfl (mq_same q 0 0 2) dX8_version_61 ?_
      refine lv_if_le (tgt := 69) hx hb dX8_version_64 (by decide) (fun h => absurd h (by decide)) (fun _ => ?_)
      refine lv_iconst (v := 0) hx hb dX8_version_67 (by decide) ?_
      exact mm_iret hx hb hr hlk hK hW hS (by rw [m_X8_version, if_neg c_1, if_pos c_3]) dX8_version_68
  · refine lv_iconst (v := 1) hx hb dX8_version_11 (by decide) ?_
    refine lv_goto (tgt := 57) hx hb dX8_version_12 (by decide) ?_
    refine mm_put hx hb hts hin hown hK hW hS 0 (by decide) (List.mem_of_getElem? (i := 2) rfl) rfl rfl (by decide +kernel) rfl (ws_0 ad _ _) dX8_version_57 (fun H locs hW hS => ?_)
    refine lv_aload_n hx hb dX8_version_60 rfl (lv_at hl 0 rfl) ?_
    refine mm_gets (v := 1) hx hb hts hin hown hK hW 0 (by decide) (List.mem_of_getElem? (i := 2) rfl) rfl rfl (mq_same q 0 0 1) dX8_version_61 ?_
    refine lv_if_le (tgt := 69) hx hb dX8_version_64 (by decide) (fun h => absurd h (by decide)) (fun _ => ?_)
    refine lv_iconst (v := 0) hx hb dX8_version_67 (by decide) ?_
    exact mm_iret hx hb hr hlk hK hW hS (by rw [m_X8_version, if_pos c_1]) dX8_version_68
end
section
def m_X8_fiscal (q : qM) (month : Int32) : qM := (if (m_X8_isIn month 1 12) = 0 then (mq_i (mq_i q 0 0 1) 2 0 (q.1 2 0)) else (if (q.1 12 0) ≤ 0 then (mq_i (mq_i q 0 0 0) 2 0 month) else (mq_i (mq_i q 0 0 2) 2 0 (q.1 2 0))))
set_option maxHeartbeats 4000000 in
set_option maxRecDepth 100000 in
theorem c_X8_fiscal (l : Launch) (D : va_G) (b0 : Nat) (Pc : Nat → Nat → Option va_E) (cA : Nat → ClassId) (ad : Nat → Nat → Nat) (q : qM) (month : Int32) : mc_v l yX8_fiscal wsX8_fiscal 1 22 D b0 Pc cA ad q [.ref (ad 20 0), .int month] (m_X8_fiscal q month) := by
  refine mc_of (by decide) rfl (Nat.le_of_ble_eq_true rfl) ?_
  intro p e s m below meth c hx hb hml hr hlk hown hts hK hW ls hl
  have hown : s.vm.findClass RX8 = some m.cls := hown
  have hS : va_S (wA b0) s.heap s.heap [] := va_S.rf
  have hl : lv_has ls 2 [(0, .ref (ad 20 0)), (1, .int month)] := hl
  have hin : ∀ w ∈ wsX80, w ∈ wsX8_fiscal := fun w h => List.mem_cons_of_mem _ (List.mem_append_right _ h)
  refine lv_aload_n hx hb dX8_fiscal_0 rfl (lv_at hl 0 rfl) ?_
  refine lv_iload_n hx hb dX8_fiscal_1 rfl (lv_at hl 1 rfl) ?_
  refine lv_iconst (v := 1) hx hb dX8_fiscal_2 (by decide) ?_
  refine lv_bipush (v := 12) hx hb dX8_fiscal_3 (by decide) ?_
  refine mm_callSi (n := 3) (As := [.int month, .int 1, .int 12]) (rest := [.ref (ad 20 0)]) (r := (m_X8_isIn month 1 12)) (q2 := q) ⟨hx, hb, hml, hown, hts⟩ (c_X8_isIn l D b0 Pc cA ad q month 1 12) gX8_fiscal_X8_isIn rfl (by decide +kernel) rfl ⟨Nat.le_of_ble_eq_true rfl, Nat.le_of_ble_eq_true rfl⟩ ⟨Nat.le_of_ble_eq_true rfl, Nat.le_of_ble_eq_true rfl⟩ hK hW hS hl.1 rfl (Nat.le_of_ble_eq_true rfl) dX8_fiscal_5 (fun H locs hW hS => ?_)
  refine lv_if_ne (tgt := 15) hx hb dX8_fiscal_8 (by decide) (fun c_1 => ?_) (fun c_1 => ?_)
  · refine lv_aload_n hx hb dX8_fiscal_15 rfl (lv_at hl 0 rfl) ?_
    refine mm_gets (v := (q.1 12 0)) hx hb hts hin hown hK hW 12 (by decide) (List.mem_of_getElem? (i := 1) rfl) rfl rfl (rfl) dX8_fiscal_16 ?_
    refine lv_if_le (tgt := 26) hx hb dX8_fiscal_19 (by decide) (fun c_2 => ?_) (fun c_2 => ?_)
    · refine lv_iconst (v := 0) hx hb dX8_fiscal_26 (by decide) ?_
      refine mm_put hx hb hts hin hown hK hW hS 0 (by decide) (List.mem_of_getElem? (i := 2) rfl) rfl rfl (by decide +kernel) rfl (ws_0 ad _ _) dX8_fiscal_27 (fun H locs hW hS => ?_)
      refine lv_aload_n hx hb dX8_fiscal_30 rfl (lv_at hl 0 rfl) ?_
      refine lv_aload_n hx hb dX8_fiscal_31 rfl (lv_at hl 0 rfl) ?_
      refine mm_gets (v := 0) hx hb hts hin hown hK hW 0 (by decide) (List.mem_of_getElem? (i := 2) rfl) rfl rfl (mq_same q 0 0 0) dX8_fiscal_32 ?_
      refine lv_if_le (tgt := 45) hx hb dX8_fiscal_35 (by decide) (fun _ => ?_) (fun h => absurd h (by decide))
      refine lv_iload_n hx hb dX8_fiscal_45 rfl (lv_at hl 1 rfl) ?_
      refine mm_put hx hb hts hin hown hK hW hS 2 (by decide) (List.mem_of_getElem? (i := 3) rfl) rfl rfl (by decide +kernel) rfl (ws_2 ad _ _) dX8_fiscal_46 (fun H locs hW hS => ?_)
      exact mm_vret hx hb hr hlk hK hW hS (by rw [m_X8_fiscal, if_neg c_1, if_pos c_2]) dX8_fiscal_49
    · refine lv_iconst (v := 2) hx hb dX8_fiscal_22 (by decide) ?_
      refine lv_goto (tgt := 27) hx hb dX8_fiscal_23 (by decide) ?_
      refine mm_put hx hb hts hin hown hK hW hS 0 (by decide) (List.mem_of_getElem? (i := 2) rfl) rfl rfl (by decide +kernel) rfl (ws_0 ad _ _) dX8_fiscal_27 (fun H locs hW hS => ?_)
      refine lv_aload_n hx hb dX8_fiscal_30 rfl (lv_at hl 0 rfl) ?_
      refine lv_aload_n hx hb dX8_fiscal_31 rfl (lv_at hl 0 rfl) ?_
      refine mm_gets (v := 2) hx hb hts hin hown hK hW 0 (by decide) (List.mem_of_getElem? (i := 2) rfl) rfl rfl (mq_same q 0 0 2) dX8_fiscal_32 ?_
      refine lv_if_le (tgt := 45) hx hb dX8_fiscal_35 (by decide) (fun h => absurd h (by decide)) (fun _ => ?_)
      refine lv_aload_n hx hb dX8_fiscal_38 rfl (lv_at hl 0 rfl) ?_
      refine mm_gets (v := (q.1 2 0)) hx hb hts hin hown hK hW 2 (by decide) (List.mem_of_getElem? (i := 3) rfl) rfl rfl (mq_ne (by decide)) dX8_fiscal_39 ?_
      refine lv_goto (tgt := 46) hx hb dX8_fiscal_42 (by decide) ?_
      refine mm_put hx hb hts hin hown hK hW hS 2 (by decide) (List.mem_of_getElem? (i := 3) rfl) rfl rfl (by decide +kernel) rfl (ws_2 ad _ _) dX8_fiscal_46 (fun H locs hW hS => ?_)
      exact mm_vret hx hb hr hlk hK hW hS (by rw [m_X8_fiscal, if_neg c_1, if_neg c_2]) dX8_fiscal_49
  · refine lv_iconst (v := 1) hx hb dX8_fiscal_11 (by decide) ?_
    refine lv_goto (tgt := 27) hx hb dX8_fiscal_12 (by decide) ?_
    refine mm_put hx hb hts hin hown hK hW hS 0 (by decide) (List.mem_of_getElem? (i := 2) rfl) rfl rfl (by decide +kernel) rfl (ws_0 ad _ _) dX8_fiscal_27 (fun H locs hW hS => ?_)
    refine lv_aload_n hx hb dX8_fiscal_30 rfl (lv_at hl 0 rfl) ?_
    refine lv_aload_n hx hb dX8_fiscal_31 rfl (lv_at hl 0 rfl) ?_
    refine mm_gets (v := 1) hx hb hts hin hown hK hW 0 (by decide) (List.mem_of_getElem? (i := 2) rfl) rfl rfl (mq_same q 0 0 1) dX8_fiscal_32 ?_
    refine lv_if_le (tgt := 45) hx hb dX8_fiscal_35 (by decide) (fun h => absurd h (by decide)) (fun _ => ?_)
    refine lv_aload_n hx hb dX8_fiscal_38 rfl (lv_at hl 0 rfl) ?_
    refine mm_gets (v := (q.1 2 0)) hx hb hts hin hown hK hW 2 (by decide) (List.mem_of_getElem? (i := 3) rfl) rfl rfl (mq_ne (by decide)) dX8_fiscal_39 ?_
    refine lv_goto (tgt := 46) hx hb dX8_fiscal_42 (by decide) ?_
    refine mm_put hx hb hts hin hown hK hW hS 2 (by decide) (List.mem_of_getElem? (i := 3) rfl) rfl rfl (by decide +kernel) rfl (ws_2 ad _ _) dX8_fiscal_46 (fun H locs hW hS => ?_)
    exact mm_vret hx hb hr hlk hK hW hS (by rw [m_X8_fiscal, if_pos c_1]) dX8_fiscal_49
end
section
def m_X8_open (q : qM) (f : Int32) (cl : Int32) : qM := (if (m_X8_isIn f 0 15) = 0 then (mq_i q 0 0 1) else (if (m_X8_isIn cl 0 7) = 0 then (mq_i q 0 0 1) else (if (q.1 9 (Int32.toNatClampNeg f)) = (-1) then (if (q.1 5 (Int32.toNatClampNeg cl)) = 0 then (mq_i q 0 0 2) else (if (m_X8_hasRoom q 1) = 0 then (mq_i q 0 0 2) else (m_X8_write (mq_i (mq_i q 0 0 0) 9 (Int32.toNatClampNeg f) cl) 2 f cl 0))) else (mq_i q 0 0 2))))
set_option maxHeartbeats 4000000 in
set_option maxRecDepth 100000 in
theorem c_X8_open (l : Launch) (D : va_G) (b0 : Nat) (Pc : Nat → Nat → Option va_E) (cA : Nat → ClassId) (ad : Nat → Nat → Nat) (q : qM) (f : Int32) (cl : Int32) (hI : gI q) (hL : lI q) : mc_v l yX8_open wsX8_open 3 74 D b0 Pc cA ad q [.ref (ad 20 0), .int f, .int cl] (m_X8_open q f cl) := by
  refine mc_of (by decide) rfl (Nat.le_of_ble_eq_true rfl) ?_
  intro p e s m below meth c hx hb hml hr hlk hown hts hK hW ls hl
  have hown : s.vm.findClass RX8 = some m.cls := hown
  have hS : va_S (wA b0) s.heap s.heap [] := va_S.rf
  have hl : lv_has ls 4 [(0, .ref (ad 20 0)), (1, .int f), (2, .int cl)] := hl
  have hin : ∀ w ∈ wsX80, w ∈ wsX8_open := fun w h => List.mem_cons_of_mem _ (List.mem_append_right _ h)
  refine lv_iload_n hx hb dX8_open_0 rfl (lv_at hl 1 rfl) ?_
  refine lv_iconst (v := 0) hx hb dX8_open_1 (by decide) ?_
  refine lv_bipush (v := 15) hx hb dX8_open_2 (by decide) ?_
  refine mm_callSi (n := 3) (As := [.int f, .int 0, .int 15]) (rest := []) (r := (m_X8_isIn f 0 15)) (q2 := q) ⟨hx, hb, hml, hown, hts⟩ (c_X8_isIn l D b0 Pc cA ad q f 0 15) gX8_open_X8_isIn rfl (by decide +kernel) rfl ⟨Nat.le_of_ble_eq_true rfl, Nat.le_of_ble_eq_true rfl⟩ ⟨Nat.le_of_ble_eq_true rfl, Nat.le_of_ble_eq_true rfl⟩ hK hW hS hl.1 rfl (Nat.le_of_ble_eq_true rfl) dX8_open_4 (fun H locs hW hS => ?_)
  refine lv_if_eq (tgt := 24) hx hb dX8_open_7 (by decide) (fun c_1 => ?_) (fun c_1 => ?_)
  · refine lv_iconst (v := 0) hx hb dX8_open_24 (by decide) ?_
    refine lv_istore_n (lv' := [(3, .int 0), (0, .ref (ad 20 0)), (1, .int f), (2, .int cl)]) hx hb dX8_open_25 rfl hl (by decide) rfl (fun ls hl => ?_)
    refine lv_aload_n hx hb dX8_open_26 rfl (lv_at hl 1 rfl) ?_
    refine lv_iload_n hx hb dX8_open_27 rfl (lv_at hl 0 rfl) ?_
    refine lv_if_ne (tgt := 35) hx hb dX8_open_28 (by decide) (fun h => absurd h (by decide)) (fun _ => ?_)
    refine lv_iconst (v := 1) hx hb dX8_open_31 (by decide) ?_
    refine lv_goto (tgt := 67) hx hb dX8_open_32 (by decide) ?_
    refine mm_put hx hb hts hin hown hK hW hS 0 (by decide) (List.mem_of_getElem? (i := 3) rfl) rfl rfl (by decide +kernel) rfl (ws_0 ad _ _) dX8_open_67 (fun H locs hW hS => ?_)
    refine lv_aload_n hx hb dX8_open_70 rfl (lv_at hl 1 rfl) ?_
    refine mm_gets (v := 1) hx hb hts hin hown hK hW 0 (by decide) (List.mem_of_getElem? (i := 3) rfl) rfl rfl (mq_same q 0 0 1) dX8_open_71 ?_
    refine lv_if_ne (tgt := 92) hx hb dX8_open_74 (by decide) (fun _ => ?_) (fun h => absurd h (by decide))
    exact mm_vret hx hb hr hlk hK hW hS (by rw [m_X8_open, if_pos c_1]) dX8_open_92
  · refine lv_iload_n hx hb dX8_open_10 rfl (lv_at hl 2 rfl) ?_
    refine lv_iconst (v := 0) hx hb dX8_open_11 (by decide) ?_
    refine lv_bipush (v := 7) hx hb dX8_open_12 (by decide) ?_
    refine mm_callSi (n := 3) (As := [.int cl, .int 0, .int 7]) (rest := []) (r := (m_X8_isIn cl 0 7)) (q2 := q) ⟨hx, hb, hml, hown, hts⟩ (c_X8_isIn l D b0 Pc cA ad q cl 0 7) gX8_open_X8_isIn rfl (by decide +kernel) rfl ⟨Nat.le_of_ble_eq_true rfl, Nat.le_of_ble_eq_true rfl⟩ ⟨Nat.le_of_ble_eq_true rfl, Nat.le_of_ble_eq_true rfl⟩ hK hW hS hl.1 rfl (Nat.le_of_ble_eq_true rfl) dX8_open_14 (fun H locs hW hS => ?_)
    refine lv_if_eq (tgt := 24) hx hb dX8_open_17 (by decide) (fun c_2 => ?_) (fun c_2 => ?_)
    · refine lv_iconst (v := 0) hx hb dX8_open_24 (by decide) ?_
      refine lv_istore_n (lv' := [(3, .int 0), (0, .ref (ad 20 0)), (1, .int f), (2, .int cl)]) hx hb dX8_open_25 rfl hl (by decide) rfl (fun ls hl => ?_)
      refine lv_aload_n hx hb dX8_open_26 rfl (lv_at hl 1 rfl) ?_
      refine lv_iload_n hx hb dX8_open_27 rfl (lv_at hl 0 rfl) ?_
      refine lv_if_ne (tgt := 35) hx hb dX8_open_28 (by decide) (fun h => absurd h (by decide)) (fun _ => ?_)
      refine lv_iconst (v := 1) hx hb dX8_open_31 (by decide) ?_
      refine lv_goto (tgt := 67) hx hb dX8_open_32 (by decide) ?_
      refine mm_put hx hb hts hin hown hK hW hS 0 (by decide) (List.mem_of_getElem? (i := 3) rfl) rfl rfl (by decide +kernel) rfl (ws_0 ad _ _) dX8_open_67 (fun H locs hW hS => ?_)
      refine lv_aload_n hx hb dX8_open_70 rfl (lv_at hl 1 rfl) ?_
      refine mm_gets (v := 1) hx hb hts hin hown hK hW 0 (by decide) (List.mem_of_getElem? (i := 3) rfl) rfl rfl (mq_same q 0 0 1) dX8_open_71 ?_
      refine lv_if_ne (tgt := 92) hx hb dX8_open_74 (by decide) (fun _ => ?_) (fun h => absurd h (by decide))
      exact mm_vret hx hb hr hlk hK hW hS (by rw [m_X8_open, if_neg c_1, if_pos c_2]) dX8_open_92
    · refine lv_iconst (v := 1) hx hb dX8_open_20 (by decide) ?_
      refine lv_goto (tgt := 25) hx hb dX8_open_21 (by decide) ?_
      refine lv_istore_n (lv' := [(3, .int 1), (0, .ref (ad 20 0)), (1, .int f), (2, .int cl)]) hx hb dX8_open_25 rfl hl (by decide) rfl (fun ls hl => ?_)
      refine lv_aload_n hx hb dX8_open_26 rfl (lv_at hl 1 rfl) ?_
      refine lv_iload_n hx hb dX8_open_27 rfl (lv_at hl 0 rfl) ?_
      refine lv_if_ne (tgt := 35) hx hb dX8_open_28 (by decide) (fun _ => ?_) (fun h => absurd h (by decide))
      refine lv_aload_n hx hb dX8_open_35 rfl (lv_at hl 1 rfl) ?_
      refine mm_get (v := .ref (ad 21 9)) hx hb hts hin hown hK hW 9 (by decide) (List.mem_of_getElem? (i := 1) rfl) rfl rfl dX8_open_36 ?_
      refine lv_iload_n hx hb dX8_open_39 rfl (lv_at hl 2 rfl) ?_
      have b_3 : vp_in f 16 := by
        have u_1 := rg_e f
        have u_2 := rg_e (m_X8_isIn f 0 15)
        have k_3 : (0 : Int32).toInt = 0 := rfl
        have v_4 := cv_ne c_1
        have k_5 : (15 : Int32).toInt = 15 := rfl
        have v_6 := is_t c_1
        have u_7 := rg_e (m_X8_isIn cl 0 7)
        have v_8 := cv_ne c_2
        have u_9 := rg_e cl
        have k_10 : (7 : Int32).toInt = 7 := rfl
        have v_11 := is_t c_2
        have w_12 := hL.2.2.2.2.2
        exact vp_in_iff.mpr (by omega)
      refine mm_iald (v := (q.1 9 (Int32.toNatClampNeg f))) hx hb hK hW 9 16 rfl b_3 ((rfl)) dX8_open_40 ?_
      refine lv_iconst (v := (-1)) hx hb dX8_open_41 (by decide) ?_
      refine lv_icmp_ne (tgt := 62) hx hb dX8_open_42 (by decide) (fun c_4 => ?_) (fun c_4 => ?_)
      · refine lv_iconst (v := 2) hx hb dX8_open_62 (by decide) ?_
        refine lv_goto (tgt := 67) hx hb dX8_open_63 (by decide) ?_
        refine mm_put hx hb hts hin hown hK hW hS 0 (by decide) (List.mem_of_getElem? (i := 3) rfl) rfl rfl (by decide +kernel) rfl (ws_0 ad _ _) dX8_open_67 (fun H locs hW hS => ?_)
        refine lv_aload_n hx hb dX8_open_70 rfl (lv_at hl 1 rfl) ?_
        refine mm_gets (v := 2) hx hb hts hin hown hK hW 0 (by decide) (List.mem_of_getElem? (i := 3) rfl) rfl rfl (mq_same q 0 0 2) dX8_open_71 ?_
        refine lv_if_ne (tgt := 92) hx hb dX8_open_74 (by decide) (fun _ => ?_) (fun h => absurd h (by decide))
        exact mm_vret hx hb hr hlk hK hW hS (by rw [m_X8_open, if_neg c_1, if_neg c_2, if_neg c_4]) dX8_open_92
      · refine lv_aload_n hx hb dX8_open_45 rfl (lv_at hl 1 rfl) ?_
        refine mm_get (v := .ref (ad 21 5)) hx hb hts hin hown hK hW 5 (by decide) (List.mem_of_getElem? (i := 2) rfl) rfl rfl dX8_open_46 ?_
        refine lv_iload_n hx hb dX8_open_49 rfl (lv_at hl 3 rfl) ?_
        have b_5 : vp_in cl 8 := by
          have u_1 := rg_e cl
          have u_2 := rg_e (m_X8_isIn f 0 15)
          have k_3 : (0 : Int32).toInt = 0 := rfl
          have v_4 := cv_ne c_1
          have u_5 := rg_e f
          have k_6 : (15 : Int32).toInt = 15 := rfl
          have v_7 := is_t c_1
          have u_8 := rg_e (m_X8_isIn cl 0 7)
          have v_9 := cv_ne c_2
          have k_10 : (7 : Int32).toInt = 7 := rfl
          have v_11 := is_t c_2
          have u_12 := rg_e (q.1 9 (Int32.toNatClampNeg f))
          have k_13 : ((-1) : Int32).toInt = -1 := rfl
          have v_14 := cv_eq c_4
          have w_15 := hL.2.2.2.2.2
          exact vp_in_iff.mpr (by omega)
        refine mm_iald (v := (q.1 5 (Int32.toNatClampNeg cl))) hx hb hK hW 5 8 rfl b_5 ((rfl)) dX8_open_50 ?_
        refine lv_if_eq (tgt := 62) hx hb dX8_open_51 (by decide) (fun c_6 => ?_) (fun c_6 => ?_)
        · refine lv_iconst (v := 2) hx hb dX8_open_62 (by decide) ?_
          refine lv_goto (tgt := 67) hx hb dX8_open_63 (by decide) ?_
          refine mm_put hx hb hts hin hown hK hW hS 0 (by decide) (List.mem_of_getElem? (i := 3) rfl) rfl rfl (by decide +kernel) rfl (ws_0 ad _ _) dX8_open_67 (fun H locs hW hS => ?_)
          refine lv_aload_n hx hb dX8_open_70 rfl (lv_at hl 1 rfl) ?_
          refine mm_gets (v := 2) hx hb hts hin hown hK hW 0 (by decide) (List.mem_of_getElem? (i := 3) rfl) rfl rfl (mq_same q 0 0 2) dX8_open_71 ?_
          refine lv_if_ne (tgt := 92) hx hb dX8_open_74 (by decide) (fun _ => ?_) (fun h => absurd h (by decide))
          exact mm_vret hx hb hr hlk hK hW hS (by rw [m_X8_open, if_neg c_1, if_neg c_2, if_pos c_4, if_pos c_6]) dX8_open_92
        · refine lv_aload_n hx hb dX8_open_54 rfl (lv_at hl 1 rfl) ?_
          refine lv_iconst (v := 1) hx hb dX8_open_55 (by decide) ?_
          refine mm_callVi (n := 1) (As := [.int 1]) (rest := [.ref (ad 20 0)]) (r := (m_X8_hasRoom q 1)) (q2 := q) ⟨hx, hb, hml, hown, hts⟩ (c_X8_hasRoom l D b0 Pc cA ad q 1) gX8_open_X8_hasRoom rfl (by decide +kernel) rfl ⟨Nat.le_of_ble_eq_true rfl, Nat.le_of_ble_eq_true rfl⟩ ⟨Nat.le_of_ble_eq_true rfl, Nat.le_of_ble_eq_true rfl⟩ hK hW hS hl.1 rfl (Nat.le_of_ble_eq_true rfl) dX8_open_56 (fun H locs hW hS => ?_)
          refine lv_if_ne (tgt := 66) hx hb dX8_open_59 (by decide) (fun c_7 => ?_) (fun c_7 => ?_)
          · refine lv_iconst (v := 0) hx hb dX8_open_66 (by decide) ?_
            refine mm_put hx hb hts hin hown hK hW hS 0 (by decide) (List.mem_of_getElem? (i := 3) rfl) rfl rfl (by decide +kernel) rfl (ws_0 ad _ _) dX8_open_67 (fun H locs hW hS => ?_)
            refine lv_aload_n hx hb dX8_open_70 rfl (lv_at hl 1 rfl) ?_
            refine mm_gets (v := 0) hx hb hts hin hown hK hW 0 (by decide) (List.mem_of_getElem? (i := 3) rfl) rfl rfl (mq_same q 0 0 0) dX8_open_71 ?_
            refine lv_if_ne (tgt := 92) hx hb dX8_open_74 (by decide) (fun h => absurd h (by decide)) (fun _ => ?_)
            refine lv_aload_n hx hb dX8_open_77 rfl (lv_at hl 1 rfl) ?_
            refine mm_get (v := .ref (ad 21 9)) hx hb hts hin hown hK hW 9 (by decide) (List.mem_of_getElem? (i := 1) rfl) rfl rfl dX8_open_78 ?_
            refine lv_iload_n hx hb dX8_open_81 rfl (lv_at hl 2 rfl) ?_
            refine lv_iload_n hx hb dX8_open_82 rfl (lv_at hl 3 rfl) ?_
            have b_8 : vp_in f 16 := by
              have u_1 := rg_e f
              have u_2 := rg_e (m_X8_isIn f 0 15)
              have k_3 : (0 : Int32).toInt = 0 := rfl
              have v_4 := cv_ne c_1
              have k_5 : (15 : Int32).toInt = 15 := rfl
              have v_6 := is_t c_1
              have u_7 := rg_e (m_X8_isIn cl 0 7)
              have v_8 := cv_ne c_2
              have u_9 := rg_e cl
              have k_10 : (7 : Int32).toInt = 7 := rfl
              have v_11 := is_t c_2
              have u_12 := rg_e (q.1 9 (Int32.toNatClampNeg f))
              have k_13 : ((-1) : Int32).toInt = -1 := rfl
              have v_14 := cv_eq c_4
              have u_15 := rg_e (q.1 5 (Int32.toNatClampNeg cl))
              have v_16 := cv_ne c_6
              have u_17 := rg_e (m_X8_hasRoom q 1)
              have v_18 := cv_ne c_7
              have k_19 : (1 : Int32).toInt = 1 := rfl
              have v_20 := hr_t c_7
              have w_21 := hL.2.2.2.2.2
              exact vp_in_iff.mpr (by omega)
            refine mm_iast hx hb hK hW hS 9 16 rfl b_8 dX8_open_83 (fun H locs hW hS => ?_)
            refine lv_aload_n hx hb dX8_open_84 rfl (lv_at hl 1 rfl) ?_
            refine lv_iconst (v := 2) hx hb dX8_open_85 (by decide) ?_
            refine lv_iload_n hx hb dX8_open_86 rfl (lv_at hl 2 rfl) ?_
            refine lv_iload_n hx hb dX8_open_87 rfl (lv_at hl 3 rfl) ?_
            refine lv_iconst (v := 0) hx hb dX8_open_88 (by decide) ?_
            have h_9 : 0 ≤ ((mq_i (mq_i q 0 0 0) 9 (Int32.toNatClampNeg f) cl).1 31 0).toInt ∧ ((mq_i (mq_i q 0 0 0) 9 (Int32.toNatClampNeg f) cl).1 31 0).toInt ≤ 399 := by
              rw [show (mq_i (mq_i q 0 0 0) 9 (Int32.toNatClampNeg f) cl).1 31 0 = (q.1 31 0) from ((mq_ne (by decide)).trans (mq_ne (by decide)))]
              have k_1 : (2 : Int32).toInt = 2 := rfl
              have u_2 := rg_e f
              have u_3 := rg_e cl
              have k_4 : (0 : Int32).toInt = 0 := rfl
              have u_5 := rg_e (m_X8_isIn f 0 15)
              have v_6 := cv_ne c_1
              have k_7 : (15 : Int32).toInt = 15 := rfl
              have v_8 := is_t c_1
              have u_9 := rg_e (m_X8_isIn cl 0 7)
              have v_10 := cv_ne c_2
              have k_11 : (7 : Int32).toInt = 7 := rfl
              have v_12 := is_t c_2
              have u_13 := rg_e (q.1 9 (Int32.toNatClampNeg f))
              have k_14 : ((-1) : Int32).toInt = -1 := rfl
              have v_15 := cv_eq c_4
              have u_16 := rg_e (q.1 5 (Int32.toNatClampNeg cl))
              have v_17 := cv_ne c_6
              have u_18 := rg_e (m_X8_hasRoom q 1)
              have v_19 := cv_ne c_7
              have k_20 : (1 : Int32).toInt = 1 := rfl
              have v_21 := hr_t c_7
              have w_22 := hL.2.2.2.2.2
              exact by omega
            have h_10 : 0 ≤ ((mq_i (mq_i q 0 0 0) 9 (Int32.toNatClampNeg f) cl).1 12 0).toInt ∧ ((mq_i (mq_i q 0 0 0) 9 (Int32.toNatClampNeg f) cl).1 12 0).toInt ≤ 64 := by
              rw [show (mq_i (mq_i q 0 0 0) 9 (Int32.toNatClampNeg f) cl).1 12 0 = (q.1 12 0) from ((mq_ne (by decide)).trans (mq_ne (by decide)))]
              exact hI.2.2.2.1
            refine mm_callVv (n := 4) (As := [.int 2, .int f, .int cl, .int 0]) (rest := []) (q2 := (m_X8_write (mq_i (mq_i q 0 0 0) 9 (Int32.toNatClampNeg f) cl) 2 f cl 0)) ⟨hx, hb, hml, hown, hts⟩ (c_X8_write l D b0 Pc cA ad (mq_i (mq_i q 0 0 0) 9 (Int32.toNatClampNeg f) cl) 2 f cl 0 h_9 h_10) gX8_open_X8_write rfl (by decide +kernel) rfl ⟨Nat.le_of_ble_eq_true rfl, Nat.le_of_ble_eq_true rfl⟩ ⟨Nat.le_of_ble_eq_true rfl, Nat.le_of_ble_eq_true rfl⟩ hK hW hS hl.1 rfl (Nat.le_of_ble_eq_true rfl) dX8_open_89 (fun H locs hW hS => ?_)
            exact mm_vret hx hb hr hlk hK hW hS (by rw [m_X8_open, if_neg c_1, if_neg c_2, if_pos c_4, if_neg c_6, if_neg c_7]) dX8_open_92
          · refine lv_iconst (v := 2) hx hb dX8_open_62 (by decide) ?_
            refine lv_goto (tgt := 67) hx hb dX8_open_63 (by decide) ?_
            refine mm_put hx hb hts hin hown hK hW hS 0 (by decide) (List.mem_of_getElem? (i := 3) rfl) rfl rfl (by decide +kernel) rfl (ws_0 ad _ _) dX8_open_67 (fun H locs hW hS => ?_)
            refine lv_aload_n hx hb dX8_open_70 rfl (lv_at hl 1 rfl) ?_
            refine mm_gets (v := 2) hx hb hts hin hown hK hW 0 (by decide) (List.mem_of_getElem? (i := 3) rfl) rfl rfl (mq_same q 0 0 2) dX8_open_71 ?_
            refine lv_if_ne (tgt := 92) hx hb dX8_open_74 (by decide) (fun _ => ?_) (fun h => absurd h (by decide))
            exact mm_vret hx hb hr hlk hK hW hS (by rw [m_X8_open, if_neg c_1, if_neg c_2, if_pos c_4, if_neg c_6, if_pos c_7]) dX8_open_92
end
section
def m_X8_close (q : qM) (f : Int32) (day : Int32) : qM := (if (m_X8_noFolder q f) = 0 then (if (m_X8_isDay q day) = 0 then (mq_i q 0 0 2) else (if (q.1 10 (Int32.toNatClampNeg f)) = (-1) then (if (m_X8_hasRoom q 1) = 0 then (mq_i q 0 0 3) else (m_X8_write (mq_i (mq_i (mq_i q 0 0 0) 10 (Int32.toNatClampNeg f) day) 3 0 day) 3 f day 0)) else (mq_i q 0 0 3))) else (mq_i q 0 0 1))
set_option maxHeartbeats 4000000 in
set_option maxRecDepth 100000 in
theorem c_X8_close (l : Launch) (D : va_G) (b0 : Nat) (Pc : Nat → Nat → Option va_E) (cA : Nat → ClassId) (ad : Nat → Nat → Nat) (q : qM) (f : Int32) (day : Int32) (hI : gI q) (hL : lI q) : mc_v l yX8_close wsX8_close 3 74 D b0 Pc cA ad q [.ref (ad 20 0), .int f, .int day] (m_X8_close q f day) := by
  refine mc_of (by decide) rfl (Nat.le_of_ble_eq_true rfl) ?_
  intro p e s m below meth c hx hb hml hr hlk hown hts hK hW ls hl
  have hown : s.vm.findClass RX8 = some m.cls := hown
  have hS : va_S (wA b0) s.heap s.heap [] := va_S.rf
  have hl : lv_has ls 3 [(0, .ref (ad 20 0)), (1, .int f), (2, .int day)] := hl
  have hin : ∀ w ∈ wsX80, w ∈ wsX8_close := fun w h => List.mem_cons_of_mem _ (List.mem_append_right _ h)
  refine lv_aload_n hx hb dX8_close_0 rfl (lv_at hl 0 rfl) ?_
  refine lv_aload_n hx hb dX8_close_1 rfl (lv_at hl 0 rfl) ?_
  refine lv_iload_n hx hb dX8_close_2 rfl (lv_at hl 1 rfl) ?_
  refine mm_callVi (n := 1) (As := [.int f]) (rest := [.ref (ad 20 0)]) (r := (m_X8_noFolder q f)) (q2 := q) ⟨hx, hb, hml, hown, hts⟩ (c_X8_noFolder l D b0 Pc cA ad q f) gX8_close_X8_noFolder rfl (by decide +kernel) rfl ⟨Nat.le_of_ble_eq_true rfl, Nat.le_of_ble_eq_true rfl⟩ ⟨Nat.le_of_ble_eq_true rfl, Nat.le_of_ble_eq_true rfl⟩ hK hW hS hl.1 rfl (Nat.le_of_ble_eq_true rfl) dX8_close_3 (fun H locs hW hS => ?_)
  refine lv_if_eq (tgt := 13) hx hb dX8_close_6 (by decide) (fun c_1 => ?_) (fun c_1 => ?_)
  · refine lv_aload_n hx hb dX8_close_13 rfl (lv_at hl 0 rfl) ?_
    refine lv_iload_n hx hb dX8_close_14 rfl (lv_at hl 2 rfl) ?_
    refine mm_callVi (n := 1) (As := [.int day]) (rest := [.ref (ad 20 0)]) (r := (m_X8_isDay q day)) (q2 := q) ⟨hx, hb, hml, hown, hts⟩ (c_X8_isDay l D b0 Pc cA ad q day) gX8_close_X8_isDay rfl (by decide +kernel) rfl ⟨Nat.le_of_ble_eq_true rfl, Nat.le_of_ble_eq_true rfl⟩ ⟨Nat.le_of_ble_eq_true rfl, Nat.le_of_ble_eq_true rfl⟩ hK hW hS hl.1 rfl (Nat.le_of_ble_eq_true rfl) dX8_close_15 (fun H locs hW hS => ?_)
    refine lv_if_ne (tgt := 25) hx hb dX8_close_18 (by decide) (fun c_2 => ?_) (fun c_2 => ?_)
    · refine lv_aload_n hx hb dX8_close_25 rfl (lv_at hl 0 rfl) ?_
      refine mm_get (v := .ref (ad 21 10)) hx hb hts hin hown hK hW 10 (by decide) (List.mem_of_getElem? (i := 1) rfl) rfl rfl dX8_close_26 ?_
      refine lv_iload_n hx hb dX8_close_29 rfl (lv_at hl 1 rfl) ?_
      have b_3 : vp_in f 16 := by
        have u_1 := rg_e f
        have u_2 := rg_e (m_X8_noFolder q f)
        have k_3 : (0 : Int32).toInt = 0 := rfl
        have v_4 := cv_eq c_1
        have v_5 := nf_t c_1
        have u_6 := rg_e (m_X8_isDay q day)
        have v_7 := cv_ne c_2
        have u_8 := rg_e day
        have v_9 := dy_t c_2
        have w_10 := hL.2.2.2.2.2
        exact vp_in_iff.mpr (by omega)
      refine mm_iald (v := (q.1 10 (Int32.toNatClampNeg f))) hx hb hK hW 10 16 rfl b_3 ((rfl)) dX8_close_30 ?_
      refine lv_iconst (v := (-1)) hx hb dX8_close_31 (by decide) ?_
      refine lv_icmp_ne (tgt := 43) hx hb dX8_close_32 (by decide) (fun c_4 => ?_) (fun c_4 => ?_)
      · refine lv_iconst (v := 3) hx hb dX8_close_43 (by decide) ?_
        refine lv_goto (tgt := 48) hx hb dX8_close_44 (by decide) ?_
        refine mm_put hx hb hts hin hown hK hW hS 0 (by decide) (List.mem_of_getElem? (i := 2) rfl) rfl rfl (by decide +kernel) rfl (ws_0 ad _ _) dX8_close_48 (fun H locs hW hS => ?_)
        refine lv_aload_n hx hb dX8_close_51 rfl (lv_at hl 0 rfl) ?_
        refine mm_gets (v := 3) hx hb hts hin hown hK hW 0 (by decide) (List.mem_of_getElem? (i := 2) rfl) rfl rfl (mq_same q 0 0 3) dX8_close_52 ?_
        refine lv_if_ne (tgt := 78) hx hb dX8_close_55 (by decide) (fun _ => ?_) (fun h => absurd h (by decide))
        exact mm_vret hx hb hr hlk hK hW hS (by rw [m_X8_close, if_pos c_1, if_neg c_2, if_neg c_4]) dX8_close_78
      · refine lv_aload_n hx hb dX8_close_35 rfl (lv_at hl 0 rfl) ?_
        refine lv_iconst (v := 1) hx hb dX8_close_36 (by decide) ?_
        refine mm_callVi (n := 1) (As := [.int 1]) (rest := [.ref (ad 20 0)]) (r := (m_X8_hasRoom q 1)) (q2 := q) ⟨hx, hb, hml, hown, hts⟩ (c_X8_hasRoom l D b0 Pc cA ad q 1) gX8_close_X8_hasRoom rfl (by decide +kernel) rfl ⟨Nat.le_of_ble_eq_true rfl, Nat.le_of_ble_eq_true rfl⟩ ⟨Nat.le_of_ble_eq_true rfl, Nat.le_of_ble_eq_true rfl⟩ hK hW hS hl.1 rfl (Nat.le_of_ble_eq_true rfl) dX8_close_37 (fun H locs hW hS => ?_)
        refine lv_if_ne (tgt := 47) hx hb dX8_close_40 (by decide) (fun c_5 => ?_) (fun c_5 => ?_)
        · refine lv_iconst (v := 0) hx hb dX8_close_47 (by decide) ?_
          refine mm_put hx hb hts hin hown hK hW hS 0 (by decide) (List.mem_of_getElem? (i := 2) rfl) rfl rfl (by decide +kernel) rfl (ws_0 ad _ _) dX8_close_48 (fun H locs hW hS => ?_)
          refine lv_aload_n hx hb dX8_close_51 rfl (lv_at hl 0 rfl) ?_
          refine mm_gets (v := 0) hx hb hts hin hown hK hW 0 (by decide) (List.mem_of_getElem? (i := 2) rfl) rfl rfl (mq_same q 0 0 0) dX8_close_52 ?_
          refine lv_if_ne (tgt := 78) hx hb dX8_close_55 (by decide) (fun h => absurd h (by decide)) (fun _ => ?_)
          refine lv_aload_n hx hb dX8_close_58 rfl (lv_at hl 0 rfl) ?_
          refine mm_get (v := .ref (ad 21 10)) hx hb hts hin hown hK hW 10 (by decide) (List.mem_of_getElem? (i := 1) rfl) rfl rfl dX8_close_59 ?_
          refine lv_iload_n hx hb dX8_close_62 rfl (lv_at hl 1 rfl) ?_
          refine lv_iload_n hx hb dX8_close_63 rfl (lv_at hl 2 rfl) ?_
          have b_6 : vp_in f 16 := by
            have u_1 := rg_e f
            have u_2 := rg_e (m_X8_noFolder q f)
            have k_3 : (0 : Int32).toInt = 0 := rfl
            have v_4 := cv_eq c_1
            have v_5 := nf_t c_1
            have u_6 := rg_e (m_X8_isDay q day)
            have v_7 := cv_ne c_2
            have u_8 := rg_e day
            have v_9 := dy_t c_2
            have u_10 := rg_e (q.1 10 (Int32.toNatClampNeg f))
            have k_11 : ((-1) : Int32).toInt = -1 := rfl
            have v_12 := cv_eq c_4
            have u_13 := rg_e (m_X8_hasRoom q 1)
            have v_14 := cv_ne c_5
            have k_15 : (1 : Int32).toInt = 1 := rfl
            have v_16 := hr_t c_5
            have w_17 := hL.2.2.2.2.2
            exact vp_in_iff.mpr (by omega)
          refine mm_iast hx hb hK hW hS 10 16 rfl b_6 dX8_close_64 (fun H locs hW hS => ?_)
          refine lv_aload_n hx hb dX8_close_65 rfl (lv_at hl 0 rfl) ?_
          refine lv_iload_n hx hb dX8_close_66 rfl (lv_at hl 2 rfl) ?_
          refine mm_put hx hb hts hin hown hK hW hS 3 (by decide) (List.mem_of_getElem? (i := 3) rfl) rfl rfl (by decide +kernel) rfl (ws_3 ad _ _) dX8_close_67 (fun H locs hW hS => ?_)
          refine lv_aload_n hx hb dX8_close_70 rfl (lv_at hl 0 rfl) ?_
          refine lv_iconst (v := 3) hx hb dX8_close_71 (by decide) ?_
          refine lv_iload_n hx hb dX8_close_72 rfl (lv_at hl 1 rfl) ?_
          refine lv_iload_n hx hb dX8_close_73 rfl (lv_at hl 2 rfl) ?_
          refine lv_iconst (v := 0) hx hb dX8_close_74 (by decide) ?_
          have h_7 : 0 ≤ ((mq_i (mq_i (mq_i q 0 0 0) 10 (Int32.toNatClampNeg f) day) 3 0 day).1 31 0).toInt ∧ ((mq_i (mq_i (mq_i q 0 0 0) 10 (Int32.toNatClampNeg f) day) 3 0 day).1 31 0).toInt ≤ 399 := by
            rw [show (mq_i (mq_i (mq_i q 0 0 0) 10 (Int32.toNatClampNeg f) day) 3 0 day).1 31 0 = (q.1 31 0) from ((mq_ne (by decide)).trans ((mq_ne (by decide)).trans (mq_ne (by decide))))]
            have k_1 : (3 : Int32).toInt = 3 := rfl
            have u_2 := rg_e f
            have u_3 := rg_e day
            have k_4 : (0 : Int32).toInt = 0 := rfl
            have u_5 := rg_e (m_X8_noFolder q f)
            have v_6 := cv_eq c_1
            have v_7 := nf_t c_1
            have u_8 := rg_e (m_X8_isDay q day)
            have v_9 := cv_ne c_2
            have v_10 := dy_t c_2
            have u_11 := rg_e (q.1 10 (Int32.toNatClampNeg f))
            have k_12 : ((-1) : Int32).toInt = -1 := rfl
            have v_13 := cv_eq c_4
            have u_14 := rg_e (m_X8_hasRoom q 1)
            have v_15 := cv_ne c_5
            have k_16 : (1 : Int32).toInt = 1 := rfl
            have v_17 := hr_t c_5
            have w_18 := hL.2.2.2.2.2
            exact by omega
          have h_8 : 0 ≤ ((mq_i (mq_i (mq_i q 0 0 0) 10 (Int32.toNatClampNeg f) day) 3 0 day).1 12 0).toInt ∧ ((mq_i (mq_i (mq_i q 0 0 0) 10 (Int32.toNatClampNeg f) day) 3 0 day).1 12 0).toInt ≤ 64 := by
            rw [show (mq_i (mq_i (mq_i q 0 0 0) 10 (Int32.toNatClampNeg f) day) 3 0 day).1 12 0 = (q.1 12 0) from ((mq_ne (by decide)).trans ((mq_ne (by decide)).trans (mq_ne (by decide))))]
            exact hI.2.2.2.1
          refine mm_callVv (n := 4) (As := [.int 3, .int f, .int day, .int 0]) (rest := []) (q2 := (m_X8_write (mq_i (mq_i (mq_i q 0 0 0) 10 (Int32.toNatClampNeg f) day) 3 0 day) 3 f day 0)) ⟨hx, hb, hml, hown, hts⟩ (c_X8_write l D b0 Pc cA ad (mq_i (mq_i (mq_i q 0 0 0) 10 (Int32.toNatClampNeg f) day) 3 0 day) 3 f day 0 h_7 h_8) gX8_close_X8_write rfl (by decide +kernel) rfl ⟨Nat.le_of_ble_eq_true rfl, Nat.le_of_ble_eq_true rfl⟩ ⟨Nat.le_of_ble_eq_true rfl, Nat.le_of_ble_eq_true rfl⟩ hK hW hS hl.1 rfl (Nat.le_of_ble_eq_true rfl) dX8_close_75 (fun H locs hW hS => ?_)
          exact mm_vret hx hb hr hlk hK hW hS (by rw [m_X8_close, if_pos c_1, if_neg c_2, if_pos c_4, if_neg c_5]) dX8_close_78
        · refine lv_iconst (v := 3) hx hb dX8_close_43 (by decide) ?_
          refine lv_goto (tgt := 48) hx hb dX8_close_44 (by decide) ?_
          refine mm_put hx hb hts hin hown hK hW hS 0 (by decide) (List.mem_of_getElem? (i := 2) rfl) rfl rfl (by decide +kernel) rfl (ws_0 ad _ _) dX8_close_48 (fun H locs hW hS => ?_)
          refine lv_aload_n hx hb dX8_close_51 rfl (lv_at hl 0 rfl) ?_
          refine mm_gets (v := 3) hx hb hts hin hown hK hW 0 (by decide) (List.mem_of_getElem? (i := 2) rfl) rfl rfl (mq_same q 0 0 3) dX8_close_52 ?_
          refine lv_if_ne (tgt := 78) hx hb dX8_close_55 (by decide) (fun _ => ?_) (fun h => absurd h (by decide))
          exact mm_vret hx hb hr hlk hK hW hS (by rw [m_X8_close, if_pos c_1, if_neg c_2, if_pos c_4, if_pos c_5]) dX8_close_78
    · refine lv_iconst (v := 2) hx hb dX8_close_21 (by decide) ?_
      refine lv_goto (tgt := 48) hx hb dX8_close_22 (by decide) ?_
      refine mm_put hx hb hts hin hown hK hW hS 0 (by decide) (List.mem_of_getElem? (i := 2) rfl) rfl rfl (by decide +kernel) rfl (ws_0 ad _ _) dX8_close_48 (fun H locs hW hS => ?_)
      refine lv_aload_n hx hb dX8_close_51 rfl (lv_at hl 0 rfl) ?_
      refine mm_gets (v := 2) hx hb hts hin hown hK hW 0 (by decide) (List.mem_of_getElem? (i := 2) rfl) rfl rfl (mq_same q 0 0 2) dX8_close_52 ?_
      refine lv_if_ne (tgt := 78) hx hb dX8_close_55 (by decide) (fun _ => ?_) (fun h => absurd h (by decide))
      exact mm_vret hx hb hr hlk hK hW hS (by rw [m_X8_close, if_pos c_1, if_pos c_2]) dX8_close_78
  · refine lv_iconst (v := 1) hx hb dX8_close_9 (by decide) ?_
    refine lv_goto (tgt := 48) hx hb dX8_close_10 (by decide) ?_
    refine mm_put hx hb hts hin hown hK hW hS 0 (by decide) (List.mem_of_getElem? (i := 2) rfl) rfl rfl (by decide +kernel) rfl (ws_0 ad _ _) dX8_close_48 (fun H locs hW hS => ?_)
    refine lv_aload_n hx hb dX8_close_51 rfl (lv_at hl 0 rfl) ?_
    refine mm_gets (v := 1) hx hb hts hin hown hK hW 0 (by decide) (List.mem_of_getElem? (i := 2) rfl) rfl rfl (mq_same q 0 0 1) dX8_close_52 ?_
    refine lv_if_ne (tgt := 78) hx hb dX8_close_55 (by decide) (fun _ => ?_) (fun h => absurd h (by decide))
    exact mm_vret hx hb hr hlk hK hW hS (by rw [m_X8_close, if_neg c_1]) dX8_close_78
end
section
def m_X8_left (q : qM) (f : Int32) (day : Int32) : qM := (if (m_X8_noFolder q f) = 0 then (if (m_X8_isDay q day) = 0 then (mq_i q 0 0 2) else (if (q.1 11 (Int32.toNatClampNeg f)) = (-1) then (if (m_X8_hasRoom q 1) = 0 then (mq_i q 0 0 3) else (m_X8_write (mq_i (mq_i (mq_i q 0 0 0) 11 (Int32.toNatClampNeg f) day) 3 0 day) 4 f day 0)) else (mq_i q 0 0 3))) else (mq_i q 0 0 1))
set_option maxHeartbeats 4000000 in
set_option maxRecDepth 100000 in
theorem c_X8_left (l : Launch) (D : va_G) (b0 : Nat) (Pc : Nat → Nat → Option va_E) (cA : Nat → ClassId) (ad : Nat → Nat → Nat) (q : qM) (f : Int32) (day : Int32) (hI : gI q) (hL : lI q) : mc_v l yX8_left wsX8_left 3 74 D b0 Pc cA ad q [.ref (ad 20 0), .int f, .int day] (m_X8_left q f day) := by
  refine mc_of (by decide) rfl (Nat.le_of_ble_eq_true rfl) ?_
  intro p e s m below meth c hx hb hml hr hlk hown hts hK hW ls hl
  have hown : s.vm.findClass RX8 = some m.cls := hown
  have hS : va_S (wA b0) s.heap s.heap [] := va_S.rf
  have hl : lv_has ls 3 [(0, .ref (ad 20 0)), (1, .int f), (2, .int day)] := hl
  have hin : ∀ w ∈ wsX80, w ∈ wsX8_left := fun w h => List.mem_cons_of_mem _ (List.mem_append_right _ h)
  refine lv_aload_n hx hb dX8_left_0 rfl (lv_at hl 0 rfl) ?_
  refine lv_aload_n hx hb dX8_left_1 rfl (lv_at hl 0 rfl) ?_
  refine lv_iload_n hx hb dX8_left_2 rfl (lv_at hl 1 rfl) ?_
  refine mm_callVi (n := 1) (As := [.int f]) (rest := [.ref (ad 20 0)]) (r := (m_X8_noFolder q f)) (q2 := q) ⟨hx, hb, hml, hown, hts⟩ (c_X8_noFolder l D b0 Pc cA ad q f) gX8_left_X8_noFolder rfl (by decide +kernel) rfl ⟨Nat.le_of_ble_eq_true rfl, Nat.le_of_ble_eq_true rfl⟩ ⟨Nat.le_of_ble_eq_true rfl, Nat.le_of_ble_eq_true rfl⟩ hK hW hS hl.1 rfl (Nat.le_of_ble_eq_true rfl) dX8_left_3 (fun H locs hW hS => ?_)
  refine lv_if_eq (tgt := 13) hx hb dX8_left_6 (by decide) (fun c_1 => ?_) (fun c_1 => ?_)
  · refine lv_aload_n hx hb dX8_left_13 rfl (lv_at hl 0 rfl) ?_
    refine lv_iload_n hx hb dX8_left_14 rfl (lv_at hl 2 rfl) ?_
    refine mm_callVi (n := 1) (As := [.int day]) (rest := [.ref (ad 20 0)]) (r := (m_X8_isDay q day)) (q2 := q) ⟨hx, hb, hml, hown, hts⟩ (c_X8_isDay l D b0 Pc cA ad q day) gX8_left_X8_isDay rfl (by decide +kernel) rfl ⟨Nat.le_of_ble_eq_true rfl, Nat.le_of_ble_eq_true rfl⟩ ⟨Nat.le_of_ble_eq_true rfl, Nat.le_of_ble_eq_true rfl⟩ hK hW hS hl.1 rfl (Nat.le_of_ble_eq_true rfl) dX8_left_15 (fun H locs hW hS => ?_)
    refine lv_if_ne (tgt := 25) hx hb dX8_left_18 (by decide) (fun c_2 => ?_) (fun c_2 => ?_)
    · refine lv_aload_n hx hb dX8_left_25 rfl (lv_at hl 0 rfl) ?_
      refine mm_get (v := .ref (ad 21 11)) hx hb hts hin hown hK hW 11 (by decide) (List.mem_of_getElem? (i := 1) rfl) rfl rfl dX8_left_26 ?_
      refine lv_iload_n hx hb dX8_left_29 rfl (lv_at hl 1 rfl) ?_
      have b_3 : vp_in f 16 := by
        have u_1 := rg_e f
        have u_2 := rg_e (m_X8_noFolder q f)
        have k_3 : (0 : Int32).toInt = 0 := rfl
        have v_4 := cv_eq c_1
        have v_5 := nf_t c_1
        have u_6 := rg_e (m_X8_isDay q day)
        have v_7 := cv_ne c_2
        have u_8 := rg_e day
        have v_9 := dy_t c_2
        have w_10 := hL.2.2.2.2.2
        exact vp_in_iff.mpr (by omega)
      refine mm_iald (v := (q.1 11 (Int32.toNatClampNeg f))) hx hb hK hW 11 16 rfl b_3 ((rfl)) dX8_left_30 ?_
      refine lv_iconst (v := (-1)) hx hb dX8_left_31 (by decide) ?_
      refine lv_icmp_ne (tgt := 43) hx hb dX8_left_32 (by decide) (fun c_4 => ?_) (fun c_4 => ?_)
      · refine lv_iconst (v := 3) hx hb dX8_left_43 (by decide) ?_
        refine lv_goto (tgt := 48) hx hb dX8_left_44 (by decide) ?_
        refine mm_put hx hb hts hin hown hK hW hS 0 (by decide) (List.mem_of_getElem? (i := 2) rfl) rfl rfl (by decide +kernel) rfl (ws_0 ad _ _) dX8_left_48 (fun H locs hW hS => ?_)
        refine lv_aload_n hx hb dX8_left_51 rfl (lv_at hl 0 rfl) ?_
        refine mm_gets (v := 3) hx hb hts hin hown hK hW 0 (by decide) (List.mem_of_getElem? (i := 2) rfl) rfl rfl (mq_same q 0 0 3) dX8_left_52 ?_
        refine lv_if_ne (tgt := 78) hx hb dX8_left_55 (by decide) (fun _ => ?_) (fun h => absurd h (by decide))
        exact mm_vret hx hb hr hlk hK hW hS (by rw [m_X8_left, if_pos c_1, if_neg c_2, if_neg c_4]) dX8_left_78
      · refine lv_aload_n hx hb dX8_left_35 rfl (lv_at hl 0 rfl) ?_
        refine lv_iconst (v := 1) hx hb dX8_left_36 (by decide) ?_
        refine mm_callVi (n := 1) (As := [.int 1]) (rest := [.ref (ad 20 0)]) (r := (m_X8_hasRoom q 1)) (q2 := q) ⟨hx, hb, hml, hown, hts⟩ (c_X8_hasRoom l D b0 Pc cA ad q 1) gX8_left_X8_hasRoom rfl (by decide +kernel) rfl ⟨Nat.le_of_ble_eq_true rfl, Nat.le_of_ble_eq_true rfl⟩ ⟨Nat.le_of_ble_eq_true rfl, Nat.le_of_ble_eq_true rfl⟩ hK hW hS hl.1 rfl (Nat.le_of_ble_eq_true rfl) dX8_left_37 (fun H locs hW hS => ?_)
        refine lv_if_ne (tgt := 47) hx hb dX8_left_40 (by decide) (fun c_5 => ?_) (fun c_5 => ?_)
        · refine lv_iconst (v := 0) hx hb dX8_left_47 (by decide) ?_
          refine mm_put hx hb hts hin hown hK hW hS 0 (by decide) (List.mem_of_getElem? (i := 2) rfl) rfl rfl (by decide +kernel) rfl (ws_0 ad _ _) dX8_left_48 (fun H locs hW hS => ?_)
          refine lv_aload_n hx hb dX8_left_51 rfl (lv_at hl 0 rfl) ?_
          refine mm_gets (v := 0) hx hb hts hin hown hK hW 0 (by decide) (List.mem_of_getElem? (i := 2) rfl) rfl rfl (mq_same q 0 0 0) dX8_left_52 ?_
          refine lv_if_ne (tgt := 78) hx hb dX8_left_55 (by decide) (fun h => absurd h (by decide)) (fun _ => ?_)
          refine lv_aload_n hx hb dX8_left_58 rfl (lv_at hl 0 rfl) ?_
          refine mm_get (v := .ref (ad 21 11)) hx hb hts hin hown hK hW 11 (by decide) (List.mem_of_getElem? (i := 1) rfl) rfl rfl dX8_left_59 ?_
          refine lv_iload_n hx hb dX8_left_62 rfl (lv_at hl 1 rfl) ?_
          refine lv_iload_n hx hb dX8_left_63 rfl (lv_at hl 2 rfl) ?_
          have b_6 : vp_in f 16 := by
            have u_1 := rg_e f
            have u_2 := rg_e (m_X8_noFolder q f)
            have k_3 : (0 : Int32).toInt = 0 := rfl
            have v_4 := cv_eq c_1
            have v_5 := nf_t c_1
            have u_6 := rg_e (m_X8_isDay q day)
            have v_7 := cv_ne c_2
            have u_8 := rg_e day
            have v_9 := dy_t c_2
            have u_10 := rg_e (q.1 11 (Int32.toNatClampNeg f))
            have k_11 : ((-1) : Int32).toInt = -1 := rfl
            have v_12 := cv_eq c_4
            have u_13 := rg_e (m_X8_hasRoom q 1)
            have v_14 := cv_ne c_5
            have k_15 : (1 : Int32).toInt = 1 := rfl
            have v_16 := hr_t c_5
            have w_17 := hL.2.2.2.2.2
            exact vp_in_iff.mpr (by omega)
          refine mm_iast hx hb hK hW hS 11 16 rfl b_6 dX8_left_64 (fun H locs hW hS => ?_)
          refine lv_aload_n hx hb dX8_left_65 rfl (lv_at hl 0 rfl) ?_
          refine lv_iload_n hx hb dX8_left_66 rfl (lv_at hl 2 rfl) ?_
          refine mm_put hx hb hts hin hown hK hW hS 3 (by decide) (List.mem_of_getElem? (i := 3) rfl) rfl rfl (by decide +kernel) rfl (ws_3 ad _ _) dX8_left_67 (fun H locs hW hS => ?_)
          refine lv_aload_n hx hb dX8_left_70 rfl (lv_at hl 0 rfl) ?_
          refine lv_iconst (v := 4) hx hb dX8_left_71 (by decide) ?_
          refine lv_iload_n hx hb dX8_left_72 rfl (lv_at hl 1 rfl) ?_
          refine lv_iload_n hx hb dX8_left_73 rfl (lv_at hl 2 rfl) ?_
          refine lv_iconst (v := 0) hx hb dX8_left_74 (by decide) ?_
          have h_7 : 0 ≤ ((mq_i (mq_i (mq_i q 0 0 0) 11 (Int32.toNatClampNeg f) day) 3 0 day).1 31 0).toInt ∧ ((mq_i (mq_i (mq_i q 0 0 0) 11 (Int32.toNatClampNeg f) day) 3 0 day).1 31 0).toInt ≤ 399 := by
            rw [show (mq_i (mq_i (mq_i q 0 0 0) 11 (Int32.toNatClampNeg f) day) 3 0 day).1 31 0 = (q.1 31 0) from ((mq_ne (by decide)).trans ((mq_ne (by decide)).trans (mq_ne (by decide))))]
            have k_1 : (4 : Int32).toInt = 4 := rfl
            have u_2 := rg_e f
            have u_3 := rg_e day
            have k_4 : (0 : Int32).toInt = 0 := rfl
            have u_5 := rg_e (m_X8_noFolder q f)
            have v_6 := cv_eq c_1
            have v_7 := nf_t c_1
            have u_8 := rg_e (m_X8_isDay q day)
            have v_9 := cv_ne c_2
            have v_10 := dy_t c_2
            have u_11 := rg_e (q.1 11 (Int32.toNatClampNeg f))
            have k_12 : ((-1) : Int32).toInt = -1 := rfl
            have v_13 := cv_eq c_4
            have u_14 := rg_e (m_X8_hasRoom q 1)
            have v_15 := cv_ne c_5
            have k_16 : (1 : Int32).toInt = 1 := rfl
            have v_17 := hr_t c_5
            have w_18 := hL.2.2.2.2.2
            exact by omega
          have h_8 : 0 ≤ ((mq_i (mq_i (mq_i q 0 0 0) 11 (Int32.toNatClampNeg f) day) 3 0 day).1 12 0).toInt ∧ ((mq_i (mq_i (mq_i q 0 0 0) 11 (Int32.toNatClampNeg f) day) 3 0 day).1 12 0).toInt ≤ 64 := by
            rw [show (mq_i (mq_i (mq_i q 0 0 0) 11 (Int32.toNatClampNeg f) day) 3 0 day).1 12 0 = (q.1 12 0) from ((mq_ne (by decide)).trans ((mq_ne (by decide)).trans (mq_ne (by decide))))]
            exact hI.2.2.2.1
          refine mm_callVv (n := 4) (As := [.int 4, .int f, .int day, .int 0]) (rest := []) (q2 := (m_X8_write (mq_i (mq_i (mq_i q 0 0 0) 11 (Int32.toNatClampNeg f) day) 3 0 day) 4 f day 0)) ⟨hx, hb, hml, hown, hts⟩ (c_X8_write l D b0 Pc cA ad (mq_i (mq_i (mq_i q 0 0 0) 11 (Int32.toNatClampNeg f) day) 3 0 day) 4 f day 0 h_7 h_8) gX8_left_X8_write rfl (by decide +kernel) rfl ⟨Nat.le_of_ble_eq_true rfl, Nat.le_of_ble_eq_true rfl⟩ ⟨Nat.le_of_ble_eq_true rfl, Nat.le_of_ble_eq_true rfl⟩ hK hW hS hl.1 rfl (Nat.le_of_ble_eq_true rfl) dX8_left_75 (fun H locs hW hS => ?_)
          exact mm_vret hx hb hr hlk hK hW hS (by rw [m_X8_left, if_pos c_1, if_neg c_2, if_pos c_4, if_neg c_5]) dX8_left_78
        · refine lv_iconst (v := 3) hx hb dX8_left_43 (by decide) ?_
          refine lv_goto (tgt := 48) hx hb dX8_left_44 (by decide) ?_
          refine mm_put hx hb hts hin hown hK hW hS 0 (by decide) (List.mem_of_getElem? (i := 2) rfl) rfl rfl (by decide +kernel) rfl (ws_0 ad _ _) dX8_left_48 (fun H locs hW hS => ?_)
          refine lv_aload_n hx hb dX8_left_51 rfl (lv_at hl 0 rfl) ?_
          refine mm_gets (v := 3) hx hb hts hin hown hK hW 0 (by decide) (List.mem_of_getElem? (i := 2) rfl) rfl rfl (mq_same q 0 0 3) dX8_left_52 ?_
          refine lv_if_ne (tgt := 78) hx hb dX8_left_55 (by decide) (fun _ => ?_) (fun h => absurd h (by decide))
          exact mm_vret hx hb hr hlk hK hW hS (by rw [m_X8_left, if_pos c_1, if_neg c_2, if_pos c_4, if_pos c_5]) dX8_left_78
    · refine lv_iconst (v := 2) hx hb dX8_left_21 (by decide) ?_
      refine lv_goto (tgt := 48) hx hb dX8_left_22 (by decide) ?_
      refine mm_put hx hb hts hin hown hK hW hS 0 (by decide) (List.mem_of_getElem? (i := 2) rfl) rfl rfl (by decide +kernel) rfl (ws_0 ad _ _) dX8_left_48 (fun H locs hW hS => ?_)
      refine lv_aload_n hx hb dX8_left_51 rfl (lv_at hl 0 rfl) ?_
      refine mm_gets (v := 2) hx hb hts hin hown hK hW 0 (by decide) (List.mem_of_getElem? (i := 2) rfl) rfl rfl (mq_same q 0 0 2) dX8_left_52 ?_
      refine lv_if_ne (tgt := 78) hx hb dX8_left_55 (by decide) (fun _ => ?_) (fun h => absurd h (by decide))
      exact mm_vret hx hb hr hlk hK hW hS (by rw [m_X8_left, if_pos c_1, if_pos c_2]) dX8_left_78
  · refine lv_iconst (v := 1) hx hb dX8_left_9 (by decide) ?_
    refine lv_goto (tgt := 48) hx hb dX8_left_10 (by decide) ?_
    refine mm_put hx hb hts hin hown hK hW hS 0 (by decide) (List.mem_of_getElem? (i := 2) rfl) rfl rfl (by decide +kernel) rfl (ws_0 ad _ _) dX8_left_48 (fun H locs hW hS => ?_)
    refine lv_aload_n hx hb dX8_left_51 rfl (lv_at hl 0 rfl) ?_
    refine mm_gets (v := 1) hx hb hts hin hown hK hW 0 (by decide) (List.mem_of_getElem? (i := 2) rfl) rfl rfl (mq_same q 0 0 1) dX8_left_52 ?_
    refine lv_if_ne (tgt := 78) hx hb dX8_left_55 (by decide) (fun _ => ?_) (fun h => absurd h (by decide))
    exact mm_vret hx hb hr hlk hK hW hS (by rw [m_X8_left, if_neg c_1]) dX8_left_78
end
section
def m_X8_file (q : qM) (f : Int32) (size : Int32) (digest : Int64) (ka : Int32) (kb : Int32) (kc : Int32) (day : Int32) : Int32 × qM := (if (m_X8_isIn ka (-1) 99) = 0 then (if (m_X8_noFolder q f) = 0 then (0, (mq_i q 0 0 2)) else (0, (mq_i q 0 0 1))) else (if (m_X8_isIn kb (-1) 99) = 0 then (if (m_X8_noFolder q f) = 0 then (0, (mq_i q 0 0 2)) else (0, (mq_i q 0 0 1))) else (if (m_X8_isIn kc (-1) 99) = 0 then (if (m_X8_noFolder q f) = 0 then (0, (mq_i q 0 0 2)) else (0, (mq_i q 0 0 1))) else (if (m_X8_isIn size 1 65536) = 0 then (if (m_X8_noFolder q f) = 0 then (0, (mq_i q 0 0 2)) else (0, (mq_i q 0 0 1))) else (if (m_X8_isDay q day) = 0 then (if (m_X8_noFolder q f) = 0 then (0, (mq_i q 0 0 2)) else (0, (mq_i q 0 0 1))) else (if (m_X8_noFolder q f) = 0 then (if (q.1 10 (Int32.toNatClampNeg f)) = (-1) then (if (q.1 12 0) = 64 then (0, (mq_i q 0 0 3)) else (if (m_X8_hasRoom q 1) = 0 then (0, (mq_i q 0 0 3)) else ((q.1 12 0), (m_X8_write (mq_i (mq_i (mq_i (mq_i (mq_i (mq_l (mq_i (mq_i (mq_i (mq_i q 0 0 0) 13 (Int32.toNatClampNeg (q.1 12 0)) f) 14 (Int32.toNatClampNeg (q.1 12 0)) day) 15 (Int32.toNatClampNeg (q.1 12 0)) size) 16 (Int32.toNatClampNeg (q.1 12 0)) digest) 17 (Int32.toNatClampNeg (3 * (q.1 12 0))) ka) 17 (Int32.toNatClampNeg ((3 * (q.1 12 0)) + 1)) kb) 17 (Int32.toNatClampNeg ((3 * (q.1 12 0)) + 2)) kc) 12 0 ((q.1 12 0) + 1)) 3 0 day) 5 (q.1 12 0) f day)))) else (0, (mq_i q 0 0 3))) else (0, (mq_i q 0 0 1))))))))
set_option maxHeartbeats 4000000 in
set_option maxRecDepth 100000 in
theorem c_X8_file (l : Launch) (D : va_G) (b0 : Nat) (Pc : Nat → Nat → Option va_E) (cA : Nat → ClassId) (ad : Nat → Nat → Nat) (q : qM) (f : Int32) (size : Int32) (digest : Int64) (ka : Int32) (kb : Int32) (kc : Int32) (day : Int32) (hI : gI q) (hL : lI q) : mc_i l yX8_file wsX8_file 3 74 D b0 Pc cA ad q [.ref (ad 20 0), .int f, .int size, .long digest, .int ka, .int kb, .int kc, .int day] (m_X8_file q f size digest ka kb kc day) := by
  refine mc_of (by decide) rfl (Nat.le_of_ble_eq_true rfl) ?_
  intro p e s m below meth c hx hb hml hr hlk hown hts hK hW ls hl
  have hown : s.vm.findClass RX8 = some m.cls := hown
  have hS : va_S (wA b0) s.heap s.heap [] := va_S.rf
  have hl : lv_has ls 11 [(0, .ref (ad 20 0)), (1, .int f), (2, .int size), (3, .long digest), (5, .int ka), (6, .int kb), (7, .int kc), (8, .int day)] := hl
  have hin : ∀ w ∈ wsX80, w ∈ wsX8_file := fun w h => List.mem_cons_of_mem _ (List.mem_append_right _ h)
  refine lv_iload hx hb dX8_file_0 (lv_at hl 4 rfl) ?_
  refine lv_iconst (v := (-1)) hx hb dX8_file_2 (by decide) ?_
  refine lv_bipush (v := 99) hx hb dX8_file_3 (by decide) ?_
  refine mm_callSi (n := 3) (As := [.int ka, .int (-1), .int 99]) (rest := []) (r := (m_X8_isIn ka (-1) 99)) (q2 := q) ⟨hx, hb, hml, hown, hts⟩ (c_X8_isIn l D b0 Pc cA ad q ka (-1) 99) gX8_file_X8_isIn rfl (by decide +kernel) rfl ⟨Nat.le_of_ble_eq_true rfl, Nat.le_of_ble_eq_true rfl⟩ ⟨Nat.le_of_ble_eq_true rfl, Nat.le_of_ble_eq_true rfl⟩ hK hW hS hl.1 rfl (Nat.le_of_ble_eq_true rfl) dX8_file_5 (fun H locs hW hS => ?_)
  refine lv_if_eq (tgt := 56) hx hb dX8_file_8 (by decide) (fun c_1 => ?_) (fun c_1 => ?_)
  · refine lv_iconst (v := 0) hx hb dX8_file_56 (by decide) ?_
    refine lv_istore (lv' := [(9, .int 0), (0, .ref (ad 20 0)), (1, .int f), (2, .int size), (3, .long digest), (5, .int ka), (6, .int kb), (7, .int kc), (8, .int day)]) hx hb dX8_file_57 hl (by decide) rfl (fun ls hl => ?_)
    refine lv_aload_n hx hb dX8_file_59 rfl (lv_at hl 1 rfl) ?_
    refine lv_aload_n hx hb dX8_file_60 rfl (lv_at hl 1 rfl) ?_
    refine lv_iload_n hx hb dX8_file_61 rfl (lv_at hl 2 rfl) ?_
    refine mm_callVi (n := 1) (As := [.int f]) (rest := [.ref (ad 20 0)]) (r := (m_X8_noFolder q f)) (q2 := q) ⟨hx, hb, hml, hown, hts⟩ (c_X8_noFolder l D b0 Pc cA ad q f) gX8_file_X8_noFolder rfl (by decide +kernel) rfl ⟨Nat.le_of_ble_eq_true rfl, Nat.le_of_ble_eq_true rfl⟩ ⟨Nat.le_of_ble_eq_true rfl, Nat.le_of_ble_eq_true rfl⟩ hK hW hS hl.1 rfl (Nat.le_of_ble_eq_true rfl) dX8_file_62 (fun H locs hW hS => ?_)
    refine lv_if_eq (tgt := 72) hx hb dX8_file_65 (by decide) (fun c_2 => ?_) (fun c_2 => ?_)
    · refine lv_iload hx hb dX8_file_72 (lv_at hl 0 rfl) ?_
      refine lv_if_ne (tgt := 81) hx hb dX8_file_74 (by decide) (fun h => absurd h (by decide)) (fun _ => ?_)
      refine lv_iconst (v := 2) hx hb dX8_file_77 (by decide) ?_
      refine lv_goto (tgt := 113) hx hb dX8_file_78 (by decide) ?_
      refine mm_put hx hb hts hin hown hK hW hS 0 (by decide) (List.mem_of_getElem? (i := 4) rfl) rfl rfl (by decide +kernel) rfl (ws_0 ad _ _) dX8_file_113 (fun H locs hW hS => ?_)
      refine lv_aload_n hx hb dX8_file_116 rfl (lv_at hl 1 rfl) ?_
      refine mm_gets (v := 2) hx hb hts hin hown hK hW 0 (by decide) (List.mem_of_getElem? (i := 4) rfl) rfl rfl (mq_same q 0 0 2) dX8_file_117 ?_
      refine lv_if_le (tgt := 125) hx hb dX8_file_120 (by decide) (fun h => absurd h (by decide)) (fun _ => ?_)
      refine lv_iconst (v := 0) hx hb dX8_file_123 (by decide) ?_
      exact mm_iret hx hb hr hlk hK hW hS (by rw [m_X8_file, if_pos c_1, if_pos c_2]) dX8_file_124
    · refine lv_iconst (v := 1) hx hb dX8_file_68 (by decide) ?_
      refine lv_goto (tgt := 113) hx hb dX8_file_69 (by decide) ?_
      refine mm_put hx hb hts hin hown hK hW hS 0 (by decide) (List.mem_of_getElem? (i := 4) rfl) rfl rfl (by decide +kernel) rfl (ws_0 ad _ _) dX8_file_113 (fun H locs hW hS => ?_)
      refine lv_aload_n hx hb dX8_file_116 rfl (lv_at hl 1 rfl) ?_
      refine mm_gets (v := 1) hx hb hts hin hown hK hW 0 (by decide) (List.mem_of_getElem? (i := 4) rfl) rfl rfl (mq_same q 0 0 1) dX8_file_117 ?_
      refine lv_if_le (tgt := 125) hx hb dX8_file_120 (by decide) (fun h => absurd h (by decide)) (fun _ => ?_)
      refine lv_iconst (v := 0) hx hb dX8_file_123 (by decide) ?_
      exact mm_iret hx hb hr hlk hK hW hS (by rw [m_X8_file, if_pos c_1, if_neg c_2]) dX8_file_124
  · refine lv_iload hx hb dX8_file_11 (lv_at hl 5 rfl) ?_
    refine lv_iconst (v := (-1)) hx hb dX8_file_13 (by decide) ?_
    refine lv_bipush (v := 99) hx hb dX8_file_14 (by decide) ?_
    refine mm_callSi (n := 3) (As := [.int kb, .int (-1), .int 99]) (rest := []) (r := (m_X8_isIn kb (-1) 99)) (q2 := q) ⟨hx, hb, hml, hown, hts⟩ (c_X8_isIn l D b0 Pc cA ad q kb (-1) 99) gX8_file_X8_isIn rfl (by decide +kernel) rfl ⟨Nat.le_of_ble_eq_true rfl, Nat.le_of_ble_eq_true rfl⟩ ⟨Nat.le_of_ble_eq_true rfl, Nat.le_of_ble_eq_true rfl⟩ hK hW hS hl.1 rfl (Nat.le_of_ble_eq_true rfl) dX8_file_16 (fun H locs hW hS => ?_)
    refine lv_if_eq (tgt := 56) hx hb dX8_file_19 (by decide) (fun c_3 => ?_) (fun c_3 => ?_)
    · refine lv_iconst (v := 0) hx hb dX8_file_56 (by decide) ?_
      refine lv_istore (lv' := [(9, .int 0), (0, .ref (ad 20 0)), (1, .int f), (2, .int size), (3, .long digest), (5, .int ka), (6, .int kb), (7, .int kc), (8, .int day)]) hx hb dX8_file_57 hl (by decide) rfl (fun ls hl => ?_)
      refine lv_aload_n hx hb dX8_file_59 rfl (lv_at hl 1 rfl) ?_
      refine lv_aload_n hx hb dX8_file_60 rfl (lv_at hl 1 rfl) ?_
      refine lv_iload_n hx hb dX8_file_61 rfl (lv_at hl 2 rfl) ?_
      refine mm_callVi (n := 1) (As := [.int f]) (rest := [.ref (ad 20 0)]) (r := (m_X8_noFolder q f)) (q2 := q) ⟨hx, hb, hml, hown, hts⟩ (c_X8_noFolder l D b0 Pc cA ad q f) gX8_file_X8_noFolder rfl (by decide +kernel) rfl ⟨Nat.le_of_ble_eq_true rfl, Nat.le_of_ble_eq_true rfl⟩ ⟨Nat.le_of_ble_eq_true rfl, Nat.le_of_ble_eq_true rfl⟩ hK hW hS hl.1 rfl (Nat.le_of_ble_eq_true rfl) dX8_file_62 (fun H locs hW hS => ?_)
      refine lv_if_eq (tgt := 72) hx hb dX8_file_65 (by decide) (fun c_4 => ?_) (fun c_4 => ?_)
      · refine lv_iload hx hb dX8_file_72 (lv_at hl 0 rfl) ?_
        refine lv_if_ne (tgt := 81) hx hb dX8_file_74 (by decide) (fun h => absurd h (by decide)) (fun _ => ?_)
        refine lv_iconst (v := 2) hx hb dX8_file_77 (by decide) ?_
        refine lv_goto (tgt := 113) hx hb dX8_file_78 (by decide) ?_
        refine mm_put hx hb hts hin hown hK hW hS 0 (by decide) (List.mem_of_getElem? (i := 4) rfl) rfl rfl (by decide +kernel) rfl (ws_0 ad _ _) dX8_file_113 (fun H locs hW hS => ?_)
        refine lv_aload_n hx hb dX8_file_116 rfl (lv_at hl 1 rfl) ?_
        refine mm_gets (v := 2) hx hb hts hin hown hK hW 0 (by decide) (List.mem_of_getElem? (i := 4) rfl) rfl rfl (mq_same q 0 0 2) dX8_file_117 ?_
        refine lv_if_le (tgt := 125) hx hb dX8_file_120 (by decide) (fun h => absurd h (by decide)) (fun _ => ?_)
        refine lv_iconst (v := 0) hx hb dX8_file_123 (by decide) ?_
        exact mm_iret hx hb hr hlk hK hW hS (by rw [m_X8_file, if_neg c_1, if_pos c_3, if_pos c_4]) dX8_file_124
      · refine lv_iconst (v := 1) hx hb dX8_file_68 (by decide) ?_
        refine lv_goto (tgt := 113) hx hb dX8_file_69 (by decide) ?_
        refine mm_put hx hb hts hin hown hK hW hS 0 (by decide) (List.mem_of_getElem? (i := 4) rfl) rfl rfl (by decide +kernel) rfl (ws_0 ad _ _) dX8_file_113 (fun H locs hW hS => ?_)
        refine lv_aload_n hx hb dX8_file_116 rfl (lv_at hl 1 rfl) ?_
        refine mm_gets (v := 1) hx hb hts hin hown hK hW 0 (by decide) (List.mem_of_getElem? (i := 4) rfl) rfl rfl (mq_same q 0 0 1) dX8_file_117 ?_
        refine lv_if_le (tgt := 125) hx hb dX8_file_120 (by decide) (fun h => absurd h (by decide)) (fun _ => ?_)
        refine lv_iconst (v := 0) hx hb dX8_file_123 (by decide) ?_
        exact mm_iret hx hb hr hlk hK hW hS (by rw [m_X8_file, if_neg c_1, if_pos c_3, if_neg c_4]) dX8_file_124
    · refine lv_iload hx hb dX8_file_22 (lv_at hl 6 rfl) ?_
      refine lv_iconst (v := (-1)) hx hb dX8_file_24 (by decide) ?_
      refine lv_bipush (v := 99) hx hb dX8_file_25 (by decide) ?_
      refine mm_callSi (n := 3) (As := [.int kc, .int (-1), .int 99]) (rest := []) (r := (m_X8_isIn kc (-1) 99)) (q2 := q) ⟨hx, hb, hml, hown, hts⟩ (c_X8_isIn l D b0 Pc cA ad q kc (-1) 99) gX8_file_X8_isIn rfl (by decide +kernel) rfl ⟨Nat.le_of_ble_eq_true rfl, Nat.le_of_ble_eq_true rfl⟩ ⟨Nat.le_of_ble_eq_true rfl, Nat.le_of_ble_eq_true rfl⟩ hK hW hS hl.1 rfl (Nat.le_of_ble_eq_true rfl) dX8_file_27 (fun H locs hW hS => ?_)
      refine lv_if_eq (tgt := 56) hx hb dX8_file_30 (by decide) (fun c_5 => ?_) (fun c_5 => ?_)
      · refine lv_iconst (v := 0) hx hb dX8_file_56 (by decide) ?_
        refine lv_istore (lv' := [(9, .int 0), (0, .ref (ad 20 0)), (1, .int f), (2, .int size), (3, .long digest), (5, .int ka), (6, .int kb), (7, .int kc), (8, .int day)]) hx hb dX8_file_57 hl (by decide) rfl (fun ls hl => ?_)
        refine lv_aload_n hx hb dX8_file_59 rfl (lv_at hl 1 rfl) ?_
        refine lv_aload_n hx hb dX8_file_60 rfl (lv_at hl 1 rfl) ?_
        refine lv_iload_n hx hb dX8_file_61 rfl (lv_at hl 2 rfl) ?_
        refine mm_callVi (n := 1) (As := [.int f]) (rest := [.ref (ad 20 0)]) (r := (m_X8_noFolder q f)) (q2 := q) ⟨hx, hb, hml, hown, hts⟩ (c_X8_noFolder l D b0 Pc cA ad q f) gX8_file_X8_noFolder rfl (by decide +kernel) rfl ⟨Nat.le_of_ble_eq_true rfl, Nat.le_of_ble_eq_true rfl⟩ ⟨Nat.le_of_ble_eq_true rfl, Nat.le_of_ble_eq_true rfl⟩ hK hW hS hl.1 rfl (Nat.le_of_ble_eq_true rfl) dX8_file_62 (fun H locs hW hS => ?_)
        refine lv_if_eq (tgt := 72) hx hb dX8_file_65 (by decide) (fun c_6 => ?_) (fun c_6 => ?_)
        · refine lv_iload hx hb dX8_file_72 (lv_at hl 0 rfl) ?_
          refine lv_if_ne (tgt := 81) hx hb dX8_file_74 (by decide) (fun h => absurd h (by decide)) (fun _ => ?_)
          refine lv_iconst (v := 2) hx hb dX8_file_77 (by decide) ?_
          refine lv_goto (tgt := 113) hx hb dX8_file_78 (by decide) ?_
          refine mm_put hx hb hts hin hown hK hW hS 0 (by decide) (List.mem_of_getElem? (i := 4) rfl) rfl rfl (by decide +kernel) rfl (ws_0 ad _ _) dX8_file_113 (fun H locs hW hS => ?_)
          refine lv_aload_n hx hb dX8_file_116 rfl (lv_at hl 1 rfl) ?_
          refine mm_gets (v := 2) hx hb hts hin hown hK hW 0 (by decide) (List.mem_of_getElem? (i := 4) rfl) rfl rfl (mq_same q 0 0 2) dX8_file_117 ?_
          refine lv_if_le (tgt := 125) hx hb dX8_file_120 (by decide) (fun h => absurd h (by decide)) (fun _ => ?_)
          refine lv_iconst (v := 0) hx hb dX8_file_123 (by decide) ?_
          exact mm_iret hx hb hr hlk hK hW hS (by rw [m_X8_file, if_neg c_1, if_neg c_3, if_pos c_5, if_pos c_6]) dX8_file_124
        · refine lv_iconst (v := 1) hx hb dX8_file_68 (by decide) ?_
          refine lv_goto (tgt := 113) hx hb dX8_file_69 (by decide) ?_
          refine mm_put hx hb hts hin hown hK hW hS 0 (by decide) (List.mem_of_getElem? (i := 4) rfl) rfl rfl (by decide +kernel) rfl (ws_0 ad _ _) dX8_file_113 (fun H locs hW hS => ?_)
          refine lv_aload_n hx hb dX8_file_116 rfl (lv_at hl 1 rfl) ?_
          refine mm_gets (v := 1) hx hb hts hin hown hK hW 0 (by decide) (List.mem_of_getElem? (i := 4) rfl) rfl rfl (mq_same q 0 0 1) dX8_file_117 ?_
          refine lv_if_le (tgt := 125) hx hb dX8_file_120 (by decide) (fun h => absurd h (by decide)) (fun _ => ?_)
          refine lv_iconst (v := 0) hx hb dX8_file_123 (by decide) ?_
          exact mm_iret hx hb hr hlk hK hW hS (by rw [m_X8_file, if_neg c_1, if_neg c_3, if_pos c_5, if_neg c_6]) dX8_file_124
      · refine lv_iload_n hx hb dX8_file_33 rfl (lv_at hl 2 rfl) ?_
        refine lv_iconst (v := 1) hx hb dX8_file_34 (by decide) ?_
        refine lv_ldc (v := 65536) hx hb hown (hts _ (List.mem_of_getElem? (i := 1) rfl)) dX8_file_35 ?_
        refine mm_callSi (n := 3) (As := [.int size, .int 1, .int 65536]) (rest := []) (r := (m_X8_isIn size 1 65536)) (q2 := q) ⟨hx, hb, hml, hown, hts⟩ (c_X8_isIn l D b0 Pc cA ad q size 1 65536) gX8_file_X8_isIn rfl (by decide +kernel) rfl ⟨Nat.le_of_ble_eq_true rfl, Nat.le_of_ble_eq_true rfl⟩ ⟨Nat.le_of_ble_eq_true rfl, Nat.le_of_ble_eq_true rfl⟩ hK hW hS hl.1 rfl (Nat.le_of_ble_eq_true rfl) dX8_file_37 (fun H locs hW hS => ?_)
        refine lv_if_eq (tgt := 56) hx hb dX8_file_40 (by decide) (fun c_7 => ?_) (fun c_7 => ?_)
        · refine lv_iconst (v := 0) hx hb dX8_file_56 (by decide) ?_
          refine lv_istore (lv' := [(9, .int 0), (0, .ref (ad 20 0)), (1, .int f), (2, .int size), (3, .long digest), (5, .int ka), (6, .int kb), (7, .int kc), (8, .int day)]) hx hb dX8_file_57 hl (by decide) rfl (fun ls hl => ?_)
          refine lv_aload_n hx hb dX8_file_59 rfl (lv_at hl 1 rfl) ?_
          refine lv_aload_n hx hb dX8_file_60 rfl (lv_at hl 1 rfl) ?_
          refine lv_iload_n hx hb dX8_file_61 rfl (lv_at hl 2 rfl) ?_
          refine mm_callVi (n := 1) (As := [.int f]) (rest := [.ref (ad 20 0)]) (r := (m_X8_noFolder q f)) (q2 := q) ⟨hx, hb, hml, hown, hts⟩ (c_X8_noFolder l D b0 Pc cA ad q f) gX8_file_X8_noFolder rfl (by decide +kernel) rfl ⟨Nat.le_of_ble_eq_true rfl, Nat.le_of_ble_eq_true rfl⟩ ⟨Nat.le_of_ble_eq_true rfl, Nat.le_of_ble_eq_true rfl⟩ hK hW hS hl.1 rfl (Nat.le_of_ble_eq_true rfl) dX8_file_62 (fun H locs hW hS => ?_)
          refine lv_if_eq (tgt := 72) hx hb dX8_file_65 (by decide) (fun c_8 => ?_) (fun c_8 => ?_)
          · refine lv_iload hx hb dX8_file_72 (lv_at hl 0 rfl) ?_
            refine lv_if_ne (tgt := 81) hx hb dX8_file_74 (by decide) (fun h => absurd h (by decide)) (fun _ => ?_)
            refine lv_iconst (v := 2) hx hb dX8_file_77 (by decide) ?_
            refine lv_goto (tgt := 113) hx hb dX8_file_78 (by decide) ?_
            refine mm_put hx hb hts hin hown hK hW hS 0 (by decide) (List.mem_of_getElem? (i := 4) rfl) rfl rfl (by decide +kernel) rfl (ws_0 ad _ _) dX8_file_113 (fun H locs hW hS => ?_)
            refine lv_aload_n hx hb dX8_file_116 rfl (lv_at hl 1 rfl) ?_
            refine mm_gets (v := 2) hx hb hts hin hown hK hW 0 (by decide) (List.mem_of_getElem? (i := 4) rfl) rfl rfl (mq_same q 0 0 2) dX8_file_117 ?_
            refine lv_if_le (tgt := 125) hx hb dX8_file_120 (by decide) (fun h => absurd h (by decide)) (fun _ => ?_)
            refine lv_iconst (v := 0) hx hb dX8_file_123 (by decide) ?_
            exact mm_iret hx hb hr hlk hK hW hS (by rw [m_X8_file, if_neg c_1, if_neg c_3, if_neg c_5, if_pos c_7, if_pos c_8]) dX8_file_124
          · refine lv_iconst (v := 1) hx hb dX8_file_68 (by decide) ?_
            refine lv_goto (tgt := 113) hx hb dX8_file_69 (by decide) ?_
            refine mm_put hx hb hts hin hown hK hW hS 0 (by decide) (List.mem_of_getElem? (i := 4) rfl) rfl rfl (by decide +kernel) rfl (ws_0 ad _ _) dX8_file_113 (fun H locs hW hS => ?_)
            refine lv_aload_n hx hb dX8_file_116 rfl (lv_at hl 1 rfl) ?_
            refine mm_gets (v := 1) hx hb hts hin hown hK hW 0 (by decide) (List.mem_of_getElem? (i := 4) rfl) rfl rfl (mq_same q 0 0 1) dX8_file_117 ?_
            refine lv_if_le (tgt := 125) hx hb dX8_file_120 (by decide) (fun h => absurd h (by decide)) (fun _ => ?_)
            refine lv_iconst (v := 0) hx hb dX8_file_123 (by decide) ?_
            exact mm_iret hx hb hr hlk hK hW hS (by rw [m_X8_file, if_neg c_1, if_neg c_3, if_neg c_5, if_pos c_7, if_neg c_8]) dX8_file_124
        · refine lv_aload_n hx hb dX8_file_43 rfl (lv_at hl 0 rfl) ?_
          refine lv_iload hx hb dX8_file_44 (lv_at hl 7 rfl) ?_
          refine mm_callVi (n := 1) (As := [.int day]) (rest := []) (r := (m_X8_isDay q day)) (q2 := q) ⟨hx, hb, hml, hown, hts⟩ (c_X8_isDay l D b0 Pc cA ad q day) gX8_file_X8_isDay rfl (by decide +kernel) rfl ⟨Nat.le_of_ble_eq_true rfl, Nat.le_of_ble_eq_true rfl⟩ ⟨Nat.le_of_ble_eq_true rfl, Nat.le_of_ble_eq_true rfl⟩ hK hW hS hl.1 rfl (Nat.le_of_ble_eq_true rfl) dX8_file_46 (fun H locs hW hS => ?_)
          refine lv_if_eq (tgt := 56) hx hb dX8_file_49 (by decide) (fun c_9 => ?_) (fun c_9 => ?_)
          · refine lv_iconst (v := 0) hx hb dX8_file_56 (by decide) ?_
            refine lv_istore (lv' := [(9, .int 0), (0, .ref (ad 20 0)), (1, .int f), (2, .int size), (3, .long digest), (5, .int ka), (6, .int kb), (7, .int kc), (8, .int day)]) hx hb dX8_file_57 hl (by decide) rfl (fun ls hl => ?_)
            refine lv_aload_n hx hb dX8_file_59 rfl (lv_at hl 1 rfl) ?_
            refine lv_aload_n hx hb dX8_file_60 rfl (lv_at hl 1 rfl) ?_
            refine lv_iload_n hx hb dX8_file_61 rfl (lv_at hl 2 rfl) ?_
            refine mm_callVi (n := 1) (As := [.int f]) (rest := [.ref (ad 20 0)]) (r := (m_X8_noFolder q f)) (q2 := q) ⟨hx, hb, hml, hown, hts⟩ (c_X8_noFolder l D b0 Pc cA ad q f) gX8_file_X8_noFolder rfl (by decide +kernel) rfl ⟨Nat.le_of_ble_eq_true rfl, Nat.le_of_ble_eq_true rfl⟩ ⟨Nat.le_of_ble_eq_true rfl, Nat.le_of_ble_eq_true rfl⟩ hK hW hS hl.1 rfl (Nat.le_of_ble_eq_true rfl) dX8_file_62 (fun H locs hW hS => ?_)
            refine lv_if_eq (tgt := 72) hx hb dX8_file_65 (by decide) (fun c_10 => ?_) (fun c_10 => ?_)
            · refine lv_iload hx hb dX8_file_72 (lv_at hl 0 rfl) ?_
              refine lv_if_ne (tgt := 81) hx hb dX8_file_74 (by decide) (fun h => absurd h (by decide)) (fun _ => ?_)
              refine lv_iconst (v := 2) hx hb dX8_file_77 (by decide) ?_
              refine lv_goto (tgt := 113) hx hb dX8_file_78 (by decide) ?_
              refine mm_put hx hb hts hin hown hK hW hS 0 (by decide) (List.mem_of_getElem? (i := 4) rfl) rfl rfl (by decide +kernel) rfl (ws_0 ad _ _) dX8_file_113 (fun H locs hW hS => ?_)
              refine lv_aload_n hx hb dX8_file_116 rfl (lv_at hl 1 rfl) ?_
              refine mm_gets (v := 2) hx hb hts hin hown hK hW 0 (by decide) (List.mem_of_getElem? (i := 4) rfl) rfl rfl (mq_same q 0 0 2) dX8_file_117 ?_
              refine lv_if_le (tgt := 125) hx hb dX8_file_120 (by decide) (fun h => absurd h (by decide)) (fun _ => ?_)
              refine lv_iconst (v := 0) hx hb dX8_file_123 (by decide) ?_
              exact mm_iret hx hb hr hlk hK hW hS (by rw [m_X8_file, if_neg c_1, if_neg c_3, if_neg c_5, if_neg c_7, if_pos c_9, if_pos c_10]) dX8_file_124
            · refine lv_iconst (v := 1) hx hb dX8_file_68 (by decide) ?_
              refine lv_goto (tgt := 113) hx hb dX8_file_69 (by decide) ?_
              refine mm_put hx hb hts hin hown hK hW hS 0 (by decide) (List.mem_of_getElem? (i := 4) rfl) rfl rfl (by decide +kernel) rfl (ws_0 ad _ _) dX8_file_113 (fun H locs hW hS => ?_)
              refine lv_aload_n hx hb dX8_file_116 rfl (lv_at hl 1 rfl) ?_
              refine mm_gets (v := 1) hx hb hts hin hown hK hW 0 (by decide) (List.mem_of_getElem? (i := 4) rfl) rfl rfl (mq_same q 0 0 1) dX8_file_117 ?_
              refine lv_if_le (tgt := 125) hx hb dX8_file_120 (by decide) (fun h => absurd h (by decide)) (fun _ => ?_)
              refine lv_iconst (v := 0) hx hb dX8_file_123 (by decide) ?_
              exact mm_iret hx hb hr hlk hK hW hS (by rw [m_X8_file, if_neg c_1, if_neg c_3, if_neg c_5, if_neg c_7, if_pos c_9, if_neg c_10]) dX8_file_124
          · refine lv_iconst (v := 1) hx hb dX8_file_52 (by decide) ?_
            refine lv_goto (tgt := 57) hx hb dX8_file_53 (by decide) ?_
            refine lv_istore (lv' := [(9, .int 1), (0, .ref (ad 20 0)), (1, .int f), (2, .int size), (3, .long digest), (5, .int ka), (6, .int kb), (7, .int kc), (8, .int day)]) hx hb dX8_file_57 hl (by decide) rfl (fun ls hl => ?_)
            refine lv_aload_n hx hb dX8_file_59 rfl (lv_at hl 1 rfl) ?_
            refine lv_aload_n hx hb dX8_file_60 rfl (lv_at hl 1 rfl) ?_
            refine lv_iload_n hx hb dX8_file_61 rfl (lv_at hl 2 rfl) ?_
            refine mm_callVi (n := 1) (As := [.int f]) (rest := [.ref (ad 20 0)]) (r := (m_X8_noFolder q f)) (q2 := q) ⟨hx, hb, hml, hown, hts⟩ (c_X8_noFolder l D b0 Pc cA ad q f) gX8_file_X8_noFolder rfl (by decide +kernel) rfl ⟨Nat.le_of_ble_eq_true rfl, Nat.le_of_ble_eq_true rfl⟩ ⟨Nat.le_of_ble_eq_true rfl, Nat.le_of_ble_eq_true rfl⟩ hK hW hS hl.1 rfl (Nat.le_of_ble_eq_true rfl) dX8_file_62 (fun H locs hW hS => ?_)
            refine lv_if_eq (tgt := 72) hx hb dX8_file_65 (by decide) (fun c_11 => ?_) (fun c_11 => ?_)
            · refine lv_iload hx hb dX8_file_72 (lv_at hl 0 rfl) ?_
              refine lv_if_ne (tgt := 81) hx hb dX8_file_74 (by decide) (fun _ => ?_) (fun h => absurd h (by decide))
              refine lv_aload_n hx hb dX8_file_81 rfl (lv_at hl 1 rfl) ?_
              refine mm_get (v := .ref (ad 21 10)) hx hb hts hin hown hK hW 10 (by decide) (List.mem_of_getElem? (i := 2) rfl) rfl rfl dX8_file_82 ?_
              refine lv_iload_n hx hb dX8_file_85 rfl (lv_at hl 2 rfl) ?_
              have b_12 : vp_in f 16 := by
                have u_1 := rg_e f
                have u_2 := rg_e (m_X8_isIn ka (-1) 99)
                have k_3 : (0 : Int32).toInt = 0 := rfl
                have v_4 := cv_ne c_1
                have u_5 := rg_e ka
                have k_6 : ((-1) : Int32).toInt = -1 := rfl
                have k_7 : (99 : Int32).toInt = 99 := rfl
                have v_8 := is_t c_1
                have u_9 := rg_e (m_X8_isIn kb (-1) 99)
                have v_10 := cv_ne c_3
                have u_11 := rg_e kb
                have v_12 := is_t c_3
                have u_13 := rg_e (m_X8_isIn kc (-1) 99)
                have v_14 := cv_ne c_5
                have u_15 := rg_e kc
                have v_16 := is_t c_5
                have u_17 := rg_e (m_X8_isIn size 1 65536)
                have v_18 := cv_ne c_7
                have u_19 := rg_e size
                have k_20 : (1 : Int32).toInt = 1 := rfl
                have k_21 : (65536 : Int32).toInt = 65536 := rfl
                have v_22 := is_t c_7
                have u_23 := rg_e (m_X8_isDay q day)
                have v_24 := cv_ne c_9
                have u_25 := rg_e day
                have v_26 := dy_t c_9
                have u_27 := rg_e (m_X8_noFolder q f)
                have v_28 := cv_eq c_11
                have v_29 := nf_t c_11
                have w_30 := hI.2.2.2.1
                have w_31 := hL.2.2.2.2.2
                exact vp_in_iff.mpr (by omega)
              refine mm_iald (v := (q.1 10 (Int32.toNatClampNeg f))) hx hb hK hW 10 16 rfl b_12 ((rfl)) dX8_file_86 ?_
              refine lv_iconst (v := (-1)) hx hb dX8_file_87 (by decide) ?_
              refine lv_icmp_ne (tgt := 108) hx hb dX8_file_88 (by decide) (fun c_13 => ?_) (fun c_13 => ?_)
              · refine lv_iconst (v := 3) hx hb dX8_file_108 (by decide) ?_
                refine lv_goto (tgt := 113) hx hb dX8_file_109 (by decide) ?_
                refine mm_put hx hb hts hin hown hK hW hS 0 (by decide) (List.mem_of_getElem? (i := 4) rfl) rfl rfl (by decide +kernel) rfl (ws_0 ad _ _) dX8_file_113 (fun H locs hW hS => ?_)
                refine lv_aload_n hx hb dX8_file_116 rfl (lv_at hl 1 rfl) ?_
                refine mm_gets (v := 3) hx hb hts hin hown hK hW 0 (by decide) (List.mem_of_getElem? (i := 4) rfl) rfl rfl (mq_same q 0 0 3) dX8_file_117 ?_
                refine lv_if_le (tgt := 125) hx hb dX8_file_120 (by decide) (fun h => absurd h (by decide)) (fun _ => ?_)
                refine lv_iconst (v := 0) hx hb dX8_file_123 (by decide) ?_
                exact mm_iret hx hb hr hlk hK hW hS (by rw [m_X8_file, if_neg c_1, if_neg c_3, if_neg c_5, if_neg c_7, if_neg c_9, if_pos c_11, if_neg c_13]) dX8_file_124
              · refine lv_aload_n hx hb dX8_file_91 rfl (lv_at hl 1 rfl) ?_
                refine mm_gets (v := (q.1 12 0)) hx hb hts hin hown hK hW 12 (by decide) (List.mem_of_getElem? (i := 3) rfl) rfl rfl (rfl) dX8_file_92 ?_
                refine lv_bipush (v := 64) hx hb dX8_file_95 (by decide) ?_
                refine lv_icmp_eq (tgt := 108) hx hb dX8_file_97 (by decide) (fun c_14 => ?_) (fun c_14 => ?_)
                · refine lv_iconst (v := 3) hx hb dX8_file_108 (by decide) ?_
                  refine lv_goto (tgt := 113) hx hb dX8_file_109 (by decide) ?_
                  refine mm_put hx hb hts hin hown hK hW hS 0 (by decide) (List.mem_of_getElem? (i := 4) rfl) rfl rfl (by decide +kernel) rfl (ws_0 ad _ _) dX8_file_113 (fun H locs hW hS => ?_)
                  refine lv_aload_n hx hb dX8_file_116 rfl (lv_at hl 1 rfl) ?_
                  refine mm_gets (v := 3) hx hb hts hin hown hK hW 0 (by decide) (List.mem_of_getElem? (i := 4) rfl) rfl rfl (mq_same q 0 0 3) dX8_file_117 ?_
                  refine lv_if_le (tgt := 125) hx hb dX8_file_120 (by decide) (fun h => absurd h (by decide)) (fun _ => ?_)
                  refine lv_iconst (v := 0) hx hb dX8_file_123 (by decide) ?_
                  exact mm_iret hx hb hr hlk hK hW hS (by rw [m_X8_file, if_neg c_1, if_neg c_3, if_neg c_5, if_neg c_7, if_neg c_9, if_pos c_11, if_pos c_13, if_pos c_14]) dX8_file_124
                · refine lv_aload_n hx hb dX8_file_100 rfl (lv_at hl 1 rfl) ?_
                  refine lv_iconst (v := 1) hx hb dX8_file_101 (by decide) ?_
                  refine mm_callVi (n := 1) (As := [.int 1]) (rest := [.ref (ad 20 0)]) (r := (m_X8_hasRoom q 1)) (q2 := q) ⟨hx, hb, hml, hown, hts⟩ (c_X8_hasRoom l D b0 Pc cA ad q 1) gX8_file_X8_hasRoom rfl (by decide +kernel) rfl ⟨Nat.le_of_ble_eq_true rfl, Nat.le_of_ble_eq_true rfl⟩ ⟨Nat.le_of_ble_eq_true rfl, Nat.le_of_ble_eq_true rfl⟩ hK hW hS hl.1 rfl (Nat.le_of_ble_eq_true rfl) dX8_file_102 (fun H locs hW hS => ?_)
                  refine lv_if_ne (tgt := 112) hx hb dX8_file_105 (by decide) (fun c_15 => ?_) (fun c_15 => ?_)
                  · refine lv_iconst (v := 0) hx hb dX8_file_112 (by decide) ?_
                    refine mm_put hx hb hts hin hown hK hW hS 0 (by decide) (List.mem_of_getElem? (i := 4) rfl) rfl rfl (by decide +kernel) rfl (ws_0 ad _ _) dX8_file_113 (fun H locs hW hS => ?_)
                    refine lv_aload_n hx hb dX8_file_116 rfl (lv_at hl 1 rfl) ?_
                    refine mm_gets (v := 0) hx hb hts hin hown hK hW 0 (by decide) (List.mem_of_getElem? (i := 4) rfl) rfl rfl (mq_same q 0 0 0) dX8_file_117 ?_
                    refine lv_if_le (tgt := 125) hx hb dX8_file_120 (by decide) (fun _ => ?_) (fun h => absurd h (by decide))
                    refine lv_aload_n hx hb dX8_file_125 rfl (lv_at hl 1 rfl) ?_
                    refine mm_gets (v := (q.1 12 0)) hx hb hts hin hown hK hW 12 (by decide) (List.mem_of_getElem? (i := 3) rfl) rfl rfl (mq_ne (by decide)) dX8_file_126 ?_
                    refine lv_istore (lv' := [(10, .int (q.1 12 0)), (9, .int 1), (0, .ref (ad 20 0)), (1, .int f), (2, .int size), (3, .long digest), (5, .int ka), (6, .int kb), (7, .int kc), (8, .int day)]) hx hb dX8_file_129 hl (by decide) rfl (fun ls hl => ?_)
                    refine lv_aload_n hx hb dX8_file_131 rfl (lv_at hl 2 rfl) ?_
                    refine mm_get (v := .ref (ad 21 13)) hx hb hts hin hown hK hW 13 (by decide) (List.mem_of_getElem? (i := 5) rfl) rfl rfl dX8_file_132 ?_
                    refine lv_iload hx hb dX8_file_135 (lv_at hl 0 rfl) ?_
                    refine lv_iload_n hx hb dX8_file_137 rfl (lv_at hl 3 rfl) ?_
                    have b_16 : vp_in (q.1 12 0) 64 := by
                      have u_1 := rg_e (q.1 12 0)
                      have u_2 := rg_e (m_X8_isIn ka (-1) 99)
                      have k_3 : (0 : Int32).toInt = 0 := rfl
                      have v_4 := cv_ne c_1
                      have u_5 := rg_e ka
                      have k_6 : ((-1) : Int32).toInt = -1 := rfl
                      have k_7 : (99 : Int32).toInt = 99 := rfl
                      have v_8 := is_t c_1
                      have u_9 := rg_e (m_X8_isIn kb (-1) 99)
                      have v_10 := cv_ne c_3
                      have u_11 := rg_e kb
                      have v_12 := is_t c_3
                      have u_13 := rg_e (m_X8_isIn kc (-1) 99)
                      have v_14 := cv_ne c_5
                      have u_15 := rg_e kc
                      have v_16 := is_t c_5
                      have u_17 := rg_e (m_X8_isIn size 1 65536)
                      have v_18 := cv_ne c_7
                      have u_19 := rg_e size
                      have k_20 : (1 : Int32).toInt = 1 := rfl
                      have k_21 : (65536 : Int32).toInt = 65536 := rfl
                      have v_22 := is_t c_7
                      have u_23 := rg_e (m_X8_isDay q day)
                      have v_24 := cv_ne c_9
                      have u_25 := rg_e day
                      have v_26 := dy_t c_9
                      have u_27 := rg_e (m_X8_noFolder q f)
                      have v_28 := cv_eq c_11
                      have u_29 := rg_e f
                      have v_30 := nf_t c_11
                      have u_31 := rg_e (q.1 10 (Int32.toNatClampNeg f))
                      have v_32 := cv_eq c_13
                      have k_33 : (64 : Int32).toInt = 64 := rfl
                      have v_34 := cv_ne c_14
                      have u_35 := rg_e (m_X8_hasRoom q 1)
                      have v_36 := cv_ne c_15
                      have v_37 := hr_t c_15
                      have w_38 := hI.2.2.2.1
                      have w_39 := hL.2.2.2.2.2
                      exact vp_in_iff.mpr (by omega)
                    refine mm_iast hx hb hK hW hS 13 64 rfl b_16 dX8_file_138 (fun H locs hW hS => ?_)
                    refine lv_aload_n hx hb dX8_file_139 rfl (lv_at hl 2 rfl) ?_
                    refine mm_get (v := .ref (ad 21 14)) hx hb hts hin hown hK hW 14 (by decide) (List.mem_of_getElem? (i := 6) rfl) rfl rfl dX8_file_140 ?_
                    refine lv_iload hx hb dX8_file_143 (lv_at hl 0 rfl) ?_
                    refine lv_iload hx hb dX8_file_145 (lv_at hl 9 rfl) ?_
                    have b_17 : vp_in (q.1 12 0) 64 := by
                      have u_1 := rg_e (q.1 12 0)
                      have u_2 := rg_e (m_X8_isIn ka (-1) 99)
                      have k_3 : (0 : Int32).toInt = 0 := rfl
                      have v_4 := cv_ne c_1
                      have u_5 := rg_e ka
                      have k_6 : ((-1) : Int32).toInt = -1 := rfl
                      have k_7 : (99 : Int32).toInt = 99 := rfl
                      have v_8 := is_t c_1
                      have u_9 := rg_e (m_X8_isIn kb (-1) 99)
                      have v_10 := cv_ne c_3
                      have u_11 := rg_e kb
                      have v_12 := is_t c_3
                      have u_13 := rg_e (m_X8_isIn kc (-1) 99)
                      have v_14 := cv_ne c_5
                      have u_15 := rg_e kc
                      have v_16 := is_t c_5
                      have u_17 := rg_e (m_X8_isIn size 1 65536)
                      have v_18 := cv_ne c_7
                      have u_19 := rg_e size
                      have k_20 : (1 : Int32).toInt = 1 := rfl
                      have k_21 : (65536 : Int32).toInt = 65536 := rfl
                      have v_22 := is_t c_7
                      have u_23 := rg_e (m_X8_isDay q day)
                      have v_24 := cv_ne c_9
                      have u_25 := rg_e day
                      have v_26 := dy_t c_9
                      have u_27 := rg_e (m_X8_noFolder q f)
                      have v_28 := cv_eq c_11
                      have u_29 := rg_e f
                      have v_30 := nf_t c_11
                      have u_31 := rg_e (q.1 10 (Int32.toNatClampNeg f))
                      have v_32 := cv_eq c_13
                      have k_33 : (64 : Int32).toInt = 64 := rfl
                      have v_34 := cv_ne c_14
                      have u_35 := rg_e (m_X8_hasRoom q 1)
                      have v_36 := cv_ne c_15
                      have v_37 := hr_t c_15
                      have w_38 := hI.2.2.2.1
                      have w_39 := hL.2.2.2.2.2
                      exact vp_in_iff.mpr (by omega)
                    refine mm_iast hx hb hK hW hS 14 64 rfl b_17 dX8_file_147 (fun H locs hW hS => ?_)
                    refine lv_aload_n hx hb dX8_file_148 rfl (lv_at hl 2 rfl) ?_
                    refine mm_get (v := .ref (ad 21 15)) hx hb hts hin hown hK hW 15 (by decide) (List.mem_of_getElem? (i := 7) rfl) rfl rfl dX8_file_149 ?_
                    refine lv_iload hx hb dX8_file_152 (lv_at hl 0 rfl) ?_
                    refine lv_iload_n hx hb dX8_file_154 rfl (lv_at hl 4 rfl) ?_
                    have b_18 : vp_in (q.1 12 0) 64 := by
                      have u_1 := rg_e (q.1 12 0)
                      have u_2 := rg_e (m_X8_isIn ka (-1) 99)
                      have k_3 : (0 : Int32).toInt = 0 := rfl
                      have v_4 := cv_ne c_1
                      have u_5 := rg_e ka
                      have k_6 : ((-1) : Int32).toInt = -1 := rfl
                      have k_7 : (99 : Int32).toInt = 99 := rfl
                      have v_8 := is_t c_1
                      have u_9 := rg_e (m_X8_isIn kb (-1) 99)
                      have v_10 := cv_ne c_3
                      have u_11 := rg_e kb
                      have v_12 := is_t c_3
                      have u_13 := rg_e (m_X8_isIn kc (-1) 99)
                      have v_14 := cv_ne c_5
                      have u_15 := rg_e kc
                      have v_16 := is_t c_5
                      have u_17 := rg_e (m_X8_isIn size 1 65536)
                      have v_18 := cv_ne c_7
                      have u_19 := rg_e size
                      have k_20 : (1 : Int32).toInt = 1 := rfl
                      have k_21 : (65536 : Int32).toInt = 65536 := rfl
                      have v_22 := is_t c_7
                      have u_23 := rg_e (m_X8_isDay q day)
                      have v_24 := cv_ne c_9
                      have u_25 := rg_e day
                      have v_26 := dy_t c_9
                      have u_27 := rg_e (m_X8_noFolder q f)
                      have v_28 := cv_eq c_11
                      have u_29 := rg_e f
                      have v_30 := nf_t c_11
                      have u_31 := rg_e (q.1 10 (Int32.toNatClampNeg f))
                      have v_32 := cv_eq c_13
                      have k_33 : (64 : Int32).toInt = 64 := rfl
                      have v_34 := cv_ne c_14
                      have u_35 := rg_e (m_X8_hasRoom q 1)
                      have v_36 := cv_ne c_15
                      have v_37 := hr_t c_15
                      have w_38 := hI.2.2.2.1
                      have w_39 := hL.2.2.2.2.2
                      exact vp_in_iff.mpr (by omega)
                    refine mm_iast hx hb hK hW hS 15 64 rfl b_18 dX8_file_155 (fun H locs hW hS => ?_)
                    refine lv_aload_n hx hb dX8_file_156 rfl (lv_at hl 2 rfl) ?_
                    refine mm_get (v := .ref (ad 21 16)) hx hb hts hin hown hK hW 16 (by decide) (List.mem_of_getElem? (i := 8) rfl) rfl rfl dX8_file_157 ?_
                    refine lv_iload hx hb dX8_file_160 (lv_at hl 0 rfl) ?_
                    refine lv_lload_n hx hb dX8_file_162 rfl (lv_at hl 5 rfl) ?_
                    have b_19 : vp_in (q.1 12 0) 64 := by
                      have u_1 := rg_e (q.1 12 0)
                      have u_2 := rg_e (m_X8_isIn ka (-1) 99)
                      have k_3 : (0 : Int32).toInt = 0 := rfl
                      have v_4 := cv_ne c_1
                      have u_5 := rg_e ka
                      have k_6 : ((-1) : Int32).toInt = -1 := rfl
                      have k_7 : (99 : Int32).toInt = 99 := rfl
                      have v_8 := is_t c_1
                      have u_9 := rg_e (m_X8_isIn kb (-1) 99)
                      have v_10 := cv_ne c_3
                      have u_11 := rg_e kb
                      have v_12 := is_t c_3
                      have u_13 := rg_e (m_X8_isIn kc (-1) 99)
                      have v_14 := cv_ne c_5
                      have u_15 := rg_e kc
                      have v_16 := is_t c_5
                      have u_17 := rg_e (m_X8_isIn size 1 65536)
                      have v_18 := cv_ne c_7
                      have u_19 := rg_e size
                      have k_20 : (1 : Int32).toInt = 1 := rfl
                      have k_21 : (65536 : Int32).toInt = 65536 := rfl
                      have v_22 := is_t c_7
                      have u_23 := rg_e (m_X8_isDay q day)
                      have v_24 := cv_ne c_9
                      have u_25 := rg_e day
                      have v_26 := dy_t c_9
                      have u_27 := rg_e (m_X8_noFolder q f)
                      have v_28 := cv_eq c_11
                      have u_29 := rg_e f
                      have v_30 := nf_t c_11
                      have u_31 := rg_e (q.1 10 (Int32.toNatClampNeg f))
                      have v_32 := cv_eq c_13
                      have k_33 : (64 : Int32).toInt = 64 := rfl
                      have v_34 := cv_ne c_14
                      have u_35 := rg_e (m_X8_hasRoom q 1)
                      have v_36 := cv_ne c_15
                      have v_37 := hr_t c_15
                      have w_38 := hI.2.2.2.1
                      have w_39 := hL.2.2.2.2.2
                      exact vp_in_iff.mpr (by omega)
                    refine mm_last hx hb hK hW hS 16 64 rfl b_19 dX8_file_163 (fun H locs hW hS => ?_)
                    refine lv_aload_n hx hb dX8_file_164 rfl (lv_at hl 2 rfl) ?_
                    refine mm_get (v := .ref (ad 21 17)) hx hb hts hin hown hK hW 17 (by decide) (List.mem_of_getElem? (i := 9) rfl) rfl rfl dX8_file_165 ?_
                    refine lv_iconst (v := 3) hx hb dX8_file_168 (by decide) ?_
                    refine lv_iload hx hb dX8_file_169 (lv_at hl 0 rfl) ?_
                    refine lv_imul hx hb dX8_file_171 ?_
                    refine lv_iload hx hb dX8_file_172 (lv_at hl 6 rfl) ?_
                    have b_20 : vp_in (3 * (q.1 12 0)) 192 := by
                      have k_1 : (3 : Int32).toInt = 3 := rfl
                      have u_2 := rg_e (q.1 12 0)
                      have u_4 := rg_e (m_X8_isIn ka (-1) 99)
                      have k_5 : (0 : Int32).toInt = 0 := rfl
                      have v_6 := cv_ne c_1
                      have u_7 := rg_e ka
                      have k_8 : ((-1) : Int32).toInt = -1 := rfl
                      have k_9 : (99 : Int32).toInt = 99 := rfl
                      have v_10 := is_t c_1
                      have u_11 := rg_e (m_X8_isIn kb (-1) 99)
                      have v_12 := cv_ne c_3
                      have u_13 := rg_e kb
                      have v_14 := is_t c_3
                      have u_15 := rg_e (m_X8_isIn kc (-1) 99)
                      have v_16 := cv_ne c_5
                      have u_17 := rg_e kc
                      have v_18 := is_t c_5
                      have u_19 := rg_e (m_X8_isIn size 1 65536)
                      have v_20 := cv_ne c_7
                      have u_21 := rg_e size
                      have k_22 : (1 : Int32).toInt = 1 := rfl
                      have k_23 : (65536 : Int32).toInt = 65536 := rfl
                      have v_24 := is_t c_7
                      have u_25 := rg_e (m_X8_isDay q day)
                      have v_26 := cv_ne c_9
                      have u_27 := rg_e day
                      have v_28 := dy_t c_9
                      have u_29 := rg_e (m_X8_noFolder q f)
                      have v_30 := cv_eq c_11
                      have u_31 := rg_e f
                      have v_32 := nf_t c_11
                      have u_33 := rg_e (q.1 10 (Int32.toNatClampNeg f))
                      have v_34 := cv_eq c_13
                      have k_35 : (64 : Int32).toInt = 64 := rfl
                      have v_36 := cv_ne c_14
                      have u_37 := rg_e (m_X8_hasRoom q 1)
                      have v_38 := cv_ne c_15
                      have v_39 := hr_t c_15
                      have w_40 := hI.2.2.2.1
                      have w_41 := hL.2.2.2.2.2
                      have u_3 := mu_o 3 3 (q.1 12 0) rfl
                      exact vp_in_iff.mpr (by omega)
                    refine mm_iast hx hb hK hW hS 17 192 rfl b_20 dX8_file_174 (fun H locs hW hS => ?_)
                    refine lv_aload_n hx hb dX8_file_175 rfl (lv_at hl 2 rfl) ?_
                    refine mm_get (v := .ref (ad 21 17)) hx hb hts hin hown hK hW 17 (by decide) (List.mem_of_getElem? (i := 9) rfl) rfl rfl dX8_file_176 ?_
                    refine lv_iconst (v := 3) hx hb dX8_file_179 (by decide) ?_
                    refine lv_iload hx hb dX8_file_180 (lv_at hl 0 rfl) ?_
                    refine lv_imul hx hb dX8_file_182 ?_
                    refine lv_iconst (v := 1) hx hb dX8_file_183 (by decide) ?_
                    refine lv_iadd hx hb dX8_file_184 ?_
                    refine lv_iload hx hb dX8_file_185 (lv_at hl 7 rfl) ?_
                    have b_21 : vp_in ((3 * (q.1 12 0)) + 1) 192 := by
                      have k_1 : (3 : Int32).toInt = 3 := rfl
                      have u_2 := rg_e (q.1 12 0)
                      have k_4 : (1 : Int32).toInt = 1 := rfl
                      have u_6 := rg_e (m_X8_isIn ka (-1) 99)
                      have k_7 : (0 : Int32).toInt = 0 := rfl
                      have v_8 := cv_ne c_1
                      have u_9 := rg_e ka
                      have k_10 : ((-1) : Int32).toInt = -1 := rfl
                      have k_11 : (99 : Int32).toInt = 99 := rfl
                      have v_12 := is_t c_1
                      have u_13 := rg_e (m_X8_isIn kb (-1) 99)
                      have v_14 := cv_ne c_3
                      have u_15 := rg_e kb
                      have v_16 := is_t c_3
                      have u_17 := rg_e (m_X8_isIn kc (-1) 99)
                      have v_18 := cv_ne c_5
                      have u_19 := rg_e kc
                      have v_20 := is_t c_5
                      have u_21 := rg_e (m_X8_isIn size 1 65536)
                      have v_22 := cv_ne c_7
                      have u_23 := rg_e size
                      have k_24 : (65536 : Int32).toInt = 65536 := rfl
                      have v_25 := is_t c_7
                      have u_26 := rg_e (m_X8_isDay q day)
                      have v_27 := cv_ne c_9
                      have u_28 := rg_e day
                      have v_29 := dy_t c_9
                      have u_30 := rg_e (m_X8_noFolder q f)
                      have v_31 := cv_eq c_11
                      have u_32 := rg_e f
                      have v_33 := nf_t c_11
                      have u_34 := rg_e (q.1 10 (Int32.toNatClampNeg f))
                      have v_35 := cv_eq c_13
                      have k_36 : (64 : Int32).toInt = 64 := rfl
                      have v_37 := cv_ne c_14
                      have u_38 := rg_e (m_X8_hasRoom q 1)
                      have v_39 := cv_ne c_15
                      have v_40 := hr_t c_15
                      have w_41 := hI.2.2.2.1
                      have w_42 := hL.2.2.2.2.2
                      have u_3 := mu_o 3 3 (q.1 12 0) rfl
                      have u_5 := ad_o (3 * (q.1 12 0)) 1
                      exact vp_in_iff.mpr (by omega)
                    refine mm_iast hx hb hK hW hS 17 192 rfl b_21 dX8_file_187 (fun H locs hW hS => ?_)
                    refine lv_aload_n hx hb dX8_file_188 rfl (lv_at hl 2 rfl) ?_
                    refine mm_get (v := .ref (ad 21 17)) hx hb hts hin hown hK hW 17 (by decide) (List.mem_of_getElem? (i := 9) rfl) rfl rfl dX8_file_189 ?_
                    refine lv_iconst (v := 3) hx hb dX8_file_192 (by decide) ?_
                    refine lv_iload hx hb dX8_file_193 (lv_at hl 0 rfl) ?_
                    refine lv_imul hx hb dX8_file_195 ?_
                    refine lv_iconst (v := 2) hx hb dX8_file_196 (by decide) ?_
                    refine lv_iadd hx hb dX8_file_197 ?_
                    refine lv_iload hx hb dX8_file_198 (lv_at hl 8 rfl) ?_
                    have b_22 : vp_in ((3 * (q.1 12 0)) + 2) 192 := by
                      have k_1 : (3 : Int32).toInt = 3 := rfl
                      have u_2 := rg_e (q.1 12 0)
                      have k_4 : (2 : Int32).toInt = 2 := rfl
                      have u_6 := rg_e (m_X8_isIn ka (-1) 99)
                      have k_7 : (0 : Int32).toInt = 0 := rfl
                      have v_8 := cv_ne c_1
                      have u_9 := rg_e ka
                      have k_10 : ((-1) : Int32).toInt = -1 := rfl
                      have k_11 : (99 : Int32).toInt = 99 := rfl
                      have v_12 := is_t c_1
                      have u_13 := rg_e (m_X8_isIn kb (-1) 99)
                      have v_14 := cv_ne c_3
                      have u_15 := rg_e kb
                      have v_16 := is_t c_3
                      have u_17 := rg_e (m_X8_isIn kc (-1) 99)
                      have v_18 := cv_ne c_5
                      have u_19 := rg_e kc
                      have v_20 := is_t c_5
                      have u_21 := rg_e (m_X8_isIn size 1 65536)
                      have v_22 := cv_ne c_7
                      have u_23 := rg_e size
                      have k_24 : (1 : Int32).toInt = 1 := rfl
                      have k_25 : (65536 : Int32).toInt = 65536 := rfl
                      have v_26 := is_t c_7
                      have u_27 := rg_e (m_X8_isDay q day)
                      have v_28 := cv_ne c_9
                      have u_29 := rg_e day
                      have v_30 := dy_t c_9
                      have u_31 := rg_e (m_X8_noFolder q f)
                      have v_32 := cv_eq c_11
                      have u_33 := rg_e f
                      have v_34 := nf_t c_11
                      have u_35 := rg_e (q.1 10 (Int32.toNatClampNeg f))
                      have v_36 := cv_eq c_13
                      have k_37 : (64 : Int32).toInt = 64 := rfl
                      have v_38 := cv_ne c_14
                      have u_39 := rg_e (m_X8_hasRoom q 1)
                      have v_40 := cv_ne c_15
                      have v_41 := hr_t c_15
                      have w_42 := hI.2.2.2.1
                      have w_43 := hL.2.2.2.2.2
                      have u_3 := mu_o 3 3 (q.1 12 0) rfl
                      have u_5 := ad_o (3 * (q.1 12 0)) 2
                      exact vp_in_iff.mpr (by omega)
                    refine mm_iast hx hb hK hW hS 17 192 rfl b_22 dX8_file_200 (fun H locs hW hS => ?_)
                    refine lv_aload_n hx hb dX8_file_201 rfl (lv_at hl 2 rfl) ?_
                    refine lv_dup hx hb dX8_file_202 rfl ?_
                    refine mm_gets (v := (q.1 12 0)) hx hb hts hin hown hK hW 12 (by decide) (List.mem_of_getElem? (i := 3) rfl) rfl rfl ((mq_ne (by decide)).trans ((mq_ne (by decide)).trans ((mq_ne (by decide)).trans ((mq_nel).trans ((mq_ne (by decide)).trans ((mq_ne (by decide)).trans ((mq_ne (by decide)).trans (mq_ne (by decide))))))))) dX8_file_203 ?_
                    refine lv_iconst (v := 1) hx hb dX8_file_206 (by decide) ?_
                    refine lv_iadd hx hb dX8_file_207 ?_
                    refine mm_put hx hb hts hin hown hK hW hS 12 (by decide) (List.mem_of_getElem? (i := 3) rfl) rfl rfl (by decide +kernel) rfl (ws_12 ad _ _) dX8_file_208 (fun H locs hW hS => ?_)
                    refine lv_aload_n hx hb dX8_file_211 rfl (lv_at hl 2 rfl) ?_
                    refine lv_iload hx hb dX8_file_212 (lv_at hl 9 rfl) ?_
                    refine mm_put hx hb hts hin hown hK hW hS 3 (by decide) (List.mem_of_getElem? (i := 10) rfl) rfl rfl (by decide +kernel) rfl (ws_3 ad _ _) dX8_file_214 (fun H locs hW hS => ?_)
                    refine lv_aload_n hx hb dX8_file_217 rfl (lv_at hl 2 rfl) ?_
                    refine lv_iconst (v := 5) hx hb dX8_file_218 (by decide) ?_
                    refine lv_iload hx hb dX8_file_219 (lv_at hl 0 rfl) ?_
                    refine lv_iload_n hx hb dX8_file_221 rfl (lv_at hl 3 rfl) ?_
                    refine lv_iload hx hb dX8_file_222 (lv_at hl 9 rfl) ?_
                    have h_23 : 0 ≤ ((mq_i (mq_i (mq_i (mq_i (mq_i (mq_l (mq_i (mq_i (mq_i (mq_i q 0 0 0) 13 (Int32.toNatClampNeg (q.1 12 0)) f) 14 (Int32.toNatClampNeg (q.1 12 0)) day) 15 (Int32.toNatClampNeg (q.1 12 0)) size) 16 (Int32.toNatClampNeg (q.1 12 0)) digest) 17 (Int32.toNatClampNeg (3 * (q.1 12 0))) ka) 17 (Int32.toNatClampNeg ((3 * (q.1 12 0)) + 1)) kb) 17 (Int32.toNatClampNeg ((3 * (q.1 12 0)) + 2)) kc) 12 0 ((q.1 12 0) + 1)) 3 0 day).1 31 0).toInt ∧ ((mq_i (mq_i (mq_i (mq_i (mq_i (mq_l (mq_i (mq_i (mq_i (mq_i q 0 0 0) 13 (Int32.toNatClampNeg (q.1 12 0)) f) 14 (Int32.toNatClampNeg (q.1 12 0)) day) 15 (Int32.toNatClampNeg (q.1 12 0)) size) 16 (Int32.toNatClampNeg (q.1 12 0)) digest) 17 (Int32.toNatClampNeg (3 * (q.1 12 0))) ka) 17 (Int32.toNatClampNeg ((3 * (q.1 12 0)) + 1)) kb) 17 (Int32.toNatClampNeg ((3 * (q.1 12 0)) + 2)) kc) 12 0 ((q.1 12 0) + 1)) 3 0 day).1 31 0).toInt ≤ 399 := by
                      rw [show (mq_i (mq_i (mq_i (mq_i (mq_i (mq_l (mq_i (mq_i (mq_i (mq_i q 0 0 0) 13 (Int32.toNatClampNeg (q.1 12 0)) f) 14 (Int32.toNatClampNeg (q.1 12 0)) day) 15 (Int32.toNatClampNeg (q.1 12 0)) size) 16 (Int32.toNatClampNeg (q.1 12 0)) digest) 17 (Int32.toNatClampNeg (3 * (q.1 12 0))) ka) 17 (Int32.toNatClampNeg ((3 * (q.1 12 0)) + 1)) kb) 17 (Int32.toNatClampNeg ((3 * (q.1 12 0)) + 2)) kc) 12 0 ((q.1 12 0) + 1)) 3 0 day).1 31 0 = (q.1 31 0) from ((mq_ne (by decide)).trans ((mq_ne (by decide)).trans ((mq_ne (by decide)).trans ((mq_ne (by decide)).trans ((mq_ne (by decide)).trans ((mq_nel).trans ((mq_ne (by decide)).trans ((mq_ne (by decide)).trans ((mq_ne (by decide)).trans (mq_ne (by decide)))))))))))]
                      have k_1 : (5 : Int32).toInt = 5 := rfl
                      have u_2 := rg_e (q.1 12 0)
                      have u_3 := rg_e f
                      have u_4 := rg_e day
                      have u_5 := rg_e (m_X8_isIn ka (-1) 99)
                      have k_6 : (0 : Int32).toInt = 0 := rfl
                      have v_7 := cv_ne c_1
                      have u_8 := rg_e ka
                      have k_9 : ((-1) : Int32).toInt = -1 := rfl
                      have k_10 : (99 : Int32).toInt = 99 := rfl
                      have v_11 := is_t c_1
                      have u_12 := rg_e (m_X8_isIn kb (-1) 99)
                      have v_13 := cv_ne c_3
                      have u_14 := rg_e kb
                      have v_15 := is_t c_3
                      have u_16 := rg_e (m_X8_isIn kc (-1) 99)
                      have v_17 := cv_ne c_5
                      have u_18 := rg_e kc
                      have v_19 := is_t c_5
                      have u_20 := rg_e (m_X8_isIn size 1 65536)
                      have v_21 := cv_ne c_7
                      have u_22 := rg_e size
                      have k_23 : (1 : Int32).toInt = 1 := rfl
                      have k_24 : (65536 : Int32).toInt = 65536 := rfl
                      have v_25 := is_t c_7
                      have u_26 := rg_e (m_X8_isDay q day)
                      have v_27 := cv_ne c_9
                      have v_28 := dy_t c_9
                      have u_29 := rg_e (m_X8_noFolder q f)
                      have v_30 := cv_eq c_11
                      have v_31 := nf_t c_11
                      have u_32 := rg_e (q.1 10 (Int32.toNatClampNeg f))
                      have v_33 := cv_eq c_13
                      have k_34 : (64 : Int32).toInt = 64 := rfl
                      have v_35 := cv_ne c_14
                      have u_36 := rg_e (m_X8_hasRoom q 1)
                      have v_37 := cv_ne c_15
                      have v_38 := hr_t c_15
                      have w_39 := hI.2.2.2.1
                      have w_40 := hL.2.2.2.2.2
                      exact by omega
                    have h_24 : 0 ≤ ((mq_i (mq_i (mq_i (mq_i (mq_i (mq_l (mq_i (mq_i (mq_i (mq_i q 0 0 0) 13 (Int32.toNatClampNeg (q.1 12 0)) f) 14 (Int32.toNatClampNeg (q.1 12 0)) day) 15 (Int32.toNatClampNeg (q.1 12 0)) size) 16 (Int32.toNatClampNeg (q.1 12 0)) digest) 17 (Int32.toNatClampNeg (3 * (q.1 12 0))) ka) 17 (Int32.toNatClampNeg ((3 * (q.1 12 0)) + 1)) kb) 17 (Int32.toNatClampNeg ((3 * (q.1 12 0)) + 2)) kc) 12 0 ((q.1 12 0) + 1)) 3 0 day).1 12 0).toInt ∧ ((mq_i (mq_i (mq_i (mq_i (mq_i (mq_l (mq_i (mq_i (mq_i (mq_i q 0 0 0) 13 (Int32.toNatClampNeg (q.1 12 0)) f) 14 (Int32.toNatClampNeg (q.1 12 0)) day) 15 (Int32.toNatClampNeg (q.1 12 0)) size) 16 (Int32.toNatClampNeg (q.1 12 0)) digest) 17 (Int32.toNatClampNeg (3 * (q.1 12 0))) ka) 17 (Int32.toNatClampNeg ((3 * (q.1 12 0)) + 1)) kb) 17 (Int32.toNatClampNeg ((3 * (q.1 12 0)) + 2)) kc) 12 0 ((q.1 12 0) + 1)) 3 0 day).1 12 0).toInt ≤ 64 := by
                      rw [show (mq_i (mq_i (mq_i (mq_i (mq_i (mq_l (mq_i (mq_i (mq_i (mq_i q 0 0 0) 13 (Int32.toNatClampNeg (q.1 12 0)) f) 14 (Int32.toNatClampNeg (q.1 12 0)) day) 15 (Int32.toNatClampNeg (q.1 12 0)) size) 16 (Int32.toNatClampNeg (q.1 12 0)) digest) 17 (Int32.toNatClampNeg (3 * (q.1 12 0))) ka) 17 (Int32.toNatClampNeg ((3 * (q.1 12 0)) + 1)) kb) 17 (Int32.toNatClampNeg ((3 * (q.1 12 0)) + 2)) kc) 12 0 ((q.1 12 0) + 1)) 3 0 day).1 12 0 = ((q.1 12 0) + 1) from ((mq_ne (by decide)).trans (mq_same (mq_i (mq_i (mq_i (mq_l (mq_i (mq_i (mq_i (mq_i q 0 0 0) 13 (Int32.toNatClampNeg (q.1 12 0)) f) 14 (Int32.toNatClampNeg (q.1 12 0)) day) 15 (Int32.toNatClampNeg (q.1 12 0)) size) 16 (Int32.toNatClampNeg (q.1 12 0)) digest) 17 (Int32.toNatClampNeg (3 * (q.1 12 0))) ka) 17 (Int32.toNatClampNeg ((3 * (q.1 12 0)) + 1)) kb) 17 (Int32.toNatClampNeg ((3 * (q.1 12 0)) + 2)) kc) 12 0 ((q.1 12 0) + 1)))]
                      have k_1 : (5 : Int32).toInt = 5 := rfl
                      have u_2 := rg_e (q.1 12 0)
                      have u_3 := rg_e f
                      have u_4 := rg_e day
                      have k_5 : (1 : Int32).toInt = 1 := rfl
                      have u_7 := rg_e (m_X8_isIn ka (-1) 99)
                      have k_8 : (0 : Int32).toInt = 0 := rfl
                      have v_9 := cv_ne c_1
                      have u_10 := rg_e ka
                      have k_11 : ((-1) : Int32).toInt = -1 := rfl
                      have k_12 : (99 : Int32).toInt = 99 := rfl
                      have v_13 := is_t c_1
                      have u_14 := rg_e (m_X8_isIn kb (-1) 99)
                      have v_15 := cv_ne c_3
                      have u_16 := rg_e kb
                      have v_17 := is_t c_3
                      have u_18 := rg_e (m_X8_isIn kc (-1) 99)
                      have v_19 := cv_ne c_5
                      have u_20 := rg_e kc
                      have v_21 := is_t c_5
                      have u_22 := rg_e (m_X8_isIn size 1 65536)
                      have v_23 := cv_ne c_7
                      have u_24 := rg_e size
                      have k_25 : (65536 : Int32).toInt = 65536 := rfl
                      have v_26 := is_t c_7
                      have u_27 := rg_e (m_X8_isDay q day)
                      have v_28 := cv_ne c_9
                      have v_29 := dy_t c_9
                      have u_30 := rg_e (m_X8_noFolder q f)
                      have v_31 := cv_eq c_11
                      have v_32 := nf_t c_11
                      have u_33 := rg_e (q.1 10 (Int32.toNatClampNeg f))
                      have v_34 := cv_eq c_13
                      have k_35 : (64 : Int32).toInt = 64 := rfl
                      have v_36 := cv_ne c_14
                      have u_37 := rg_e (m_X8_hasRoom q 1)
                      have v_38 := cv_ne c_15
                      have v_39 := hr_t c_15
                      have w_40 := hI.2.2.2.1
                      have w_41 := hL.2.2.2.2.2
                      have u_6 := ad_o (q.1 12 0) 1
                      exact by omega
                    refine mm_callVv (n := 4) (As := [.int 5, .int (q.1 12 0), .int f, .int day]) (rest := []) (q2 := (m_X8_write (mq_i (mq_i (mq_i (mq_i (mq_i (mq_l (mq_i (mq_i (mq_i (mq_i q 0 0 0) 13 (Int32.toNatClampNeg (q.1 12 0)) f) 14 (Int32.toNatClampNeg (q.1 12 0)) day) 15 (Int32.toNatClampNeg (q.1 12 0)) size) 16 (Int32.toNatClampNeg (q.1 12 0)) digest) 17 (Int32.toNatClampNeg (3 * (q.1 12 0))) ka) 17 (Int32.toNatClampNeg ((3 * (q.1 12 0)) + 1)) kb) 17 (Int32.toNatClampNeg ((3 * (q.1 12 0)) + 2)) kc) 12 0 ((q.1 12 0) + 1)) 3 0 day) 5 (q.1 12 0) f day)) ⟨hx, hb, hml, hown, hts⟩ (c_X8_write l D b0 Pc cA ad (mq_i (mq_i (mq_i (mq_i (mq_i (mq_l (mq_i (mq_i (mq_i (mq_i q 0 0 0) 13 (Int32.toNatClampNeg (q.1 12 0)) f) 14 (Int32.toNatClampNeg (q.1 12 0)) day) 15 (Int32.toNatClampNeg (q.1 12 0)) size) 16 (Int32.toNatClampNeg (q.1 12 0)) digest) 17 (Int32.toNatClampNeg (3 * (q.1 12 0))) ka) 17 (Int32.toNatClampNeg ((3 * (q.1 12 0)) + 1)) kb) 17 (Int32.toNatClampNeg ((3 * (q.1 12 0)) + 2)) kc) 12 0 ((q.1 12 0) + 1)) 3 0 day) 5 (q.1 12 0) f day h_23 h_24) gX8_file_X8_write rfl (by decide +kernel) rfl ⟨Nat.le_of_ble_eq_true rfl, Nat.le_of_ble_eq_true rfl⟩ ⟨Nat.le_of_ble_eq_true rfl, Nat.le_of_ble_eq_true rfl⟩ hK hW hS hl.1 rfl (Nat.le_of_ble_eq_true rfl) dX8_file_224 (fun H locs hW hS => ?_)
                    refine lv_iload hx hb dX8_file_227 (lv_at hl 0 rfl) ?_
                    exact mm_iret hx hb hr hlk hK hW hS (by rw [m_X8_file, if_neg c_1, if_neg c_3, if_neg c_5, if_neg c_7, if_neg c_9, if_pos c_11, if_pos c_13, if_neg c_14, if_neg c_15]) dX8_file_229
                  · refine lv_iconst (v := 3) hx hb dX8_file_108 (by decide) ?_
                    refine lv_goto (tgt := 113) hx hb dX8_file_109 (by decide) ?_
                    refine mm_put hx hb hts hin hown hK hW hS 0 (by decide) (List.mem_of_getElem? (i := 4) rfl) rfl rfl (by decide +kernel) rfl (ws_0 ad _ _) dX8_file_113 (fun H locs hW hS => ?_)
                    refine lv_aload_n hx hb dX8_file_116 rfl (lv_at hl 1 rfl) ?_
                    refine mm_gets (v := 3) hx hb hts hin hown hK hW 0 (by decide) (List.mem_of_getElem? (i := 4) rfl) rfl rfl (mq_same q 0 0 3) dX8_file_117 ?_
                    refine lv_if_le (tgt := 125) hx hb dX8_file_120 (by decide) (fun h => absurd h (by decide)) (fun _ => ?_)
                    refine lv_iconst (v := 0) hx hb dX8_file_123 (by decide) ?_
                    exact mm_iret hx hb hr hlk hK hW hS (by rw [m_X8_file, if_neg c_1, if_neg c_3, if_neg c_5, if_neg c_7, if_neg c_9, if_pos c_11, if_pos c_13, if_neg c_14, if_pos c_15]) dX8_file_124
            · refine lv_iconst (v := 1) hx hb dX8_file_68 (by decide) ?_
              refine lv_goto (tgt := 113) hx hb dX8_file_69 (by decide) ?_
              refine mm_put hx hb hts hin hown hK hW hS 0 (by decide) (List.mem_of_getElem? (i := 4) rfl) rfl rfl (by decide +kernel) rfl (ws_0 ad _ _) dX8_file_113 (fun H locs hW hS => ?_)
              refine lv_aload_n hx hb dX8_file_116 rfl (lv_at hl 1 rfl) ?_
              refine mm_gets (v := 1) hx hb hts hin hown hK hW 0 (by decide) (List.mem_of_getElem? (i := 4) rfl) rfl rfl (mq_same q 0 0 1) dX8_file_117 ?_
              refine lv_if_le (tgt := 125) hx hb dX8_file_120 (by decide) (fun h => absurd h (by decide)) (fun _ => ?_)
              refine lv_iconst (v := 0) hx hb dX8_file_123 (by decide) ?_
              exact mm_iret hx hb hr hlk hK hW hS (by rw [m_X8_file, if_neg c_1, if_neg c_3, if_neg c_5, if_neg c_7, if_neg c_9, if_neg c_11]) dX8_file_124
end
section
def m_X8_hasKey (q : qM) (r : Int32) (key : Int32) : Int32 := (if (q.1 17 (Int32.toNatClampNeg (3 * r))) = key then 1 else (if (q.1 17 (Int32.toNatClampNeg ((3 * r) + 1))) = key then 1 else (if (q.1 17 (Int32.toNatClampNeg ((3 * r) + 2))) = key then 1 else 0)))
set_option maxHeartbeats 4000000 in
set_option maxRecDepth 100000 in
theorem c_X8_hasKey (l : Launch) (D : va_G) (b0 : Nat) (Pc : Nat → Nat → Option va_E) (cA : Nat → ClassId) (ad : Nat → Nat → Nat) (q : qM) (r : Int32) (key : Int32) (hr : 0 ≤ (r : Int32).toInt ∧ (r : Int32).toInt ≤ 63) : mc_i l yX8_hasKey wsX8_hasKey 0 0 D b0 Pc cA ad q [.ref (ad 20 0), .int r, .int key] (m_X8_hasKey q r key, q) := by
  refine mc_of (by decide) rfl (Nat.le_of_ble_eq_true rfl) ?_
  intro p e s m below meth c hx hb hml hr hlk hown hts hK hW ls hl
  have hown : s.vm.findClass RX8 = some m.cls := hown
  have hS : va_S (wA b0) s.heap s.heap [] := va_S.rf
  have hl : lv_has ls 3 [(0, .ref (ad 20 0)), (1, .int r), (2, .int key)] := hl
  have hin : ∀ w ∈ wsX80, w ∈ wsX8_hasKey := fun w h => List.mem_cons_of_mem _ (List.mem_append_right _ h)
  refine lv_aload_n hx hb dX8_hasKey_0 rfl (lv_at hl 0 rfl) ?_
  refine mm_get (v := .ref (ad 21 17)) hx hb hts hin hown hK hW 17 (by decide) (List.mem_of_getElem? (i := 1) rfl) rfl rfl dX8_hasKey_1 ?_
  refine lv_iconst (v := 3) hx hb dX8_hasKey_4 (by decide) ?_
  refine lv_iload_n hx hb dX8_hasKey_5 rfl (lv_at hl 1 rfl) ?_
  refine lv_imul hx hb dX8_hasKey_6 ?_
  have b_1 : vp_in (3 * r) 192 := by
    have k_1 : (3 : Int32).toInt = 3 := rfl
    have u_2 := rg_e r
    have w_4 := hr
    have u_3 := mu_o 3 3 r rfl
    exact vp_in_iff.mpr (by omega)
  refine mm_iald (v := (q.1 17 (Int32.toNatClampNeg (3 * r)))) hx hb hK hW 17 192 rfl b_1 ((rfl)) dX8_hasKey_7 ?_
  refine lv_iload_n hx hb dX8_hasKey_8 rfl (lv_at hl 2 rfl) ?_
  refine lv_icmp_eq (tgt := 40) hx hb dX8_hasKey_9 (by decide) (fun c_2 => ?_) (fun c_2 => ?_)
  · refine lv_iconst (v := 1) hx hb dX8_hasKey_40 (by decide) ?_
    refine lv_goto (tgt := 45) hx hb dX8_hasKey_41 (by decide) ?_
    exact mm_zret hx hb hr hlk hK hW hS rfl (by rw [m_X8_hasKey, if_pos c_2]) dX8_hasKey_45
  · refine lv_aload_n hx hb dX8_hasKey_12 rfl (lv_at hl 0 rfl) ?_
    refine mm_get (v := .ref (ad 21 17)) hx hb hts hin hown hK hW 17 (by decide) (List.mem_of_getElem? (i := 1) rfl) rfl rfl dX8_hasKey_13 ?_
    refine lv_iconst (v := 3) hx hb dX8_hasKey_16 (by decide) ?_
    refine lv_iload_n hx hb dX8_hasKey_17 rfl (lv_at hl 1 rfl) ?_
    refine lv_imul hx hb dX8_hasKey_18 ?_
    refine lv_iconst (v := 1) hx hb dX8_hasKey_19 (by decide) ?_
    refine lv_iadd hx hb dX8_hasKey_20 ?_
    have b_3 : vp_in ((3 * r) + 1) 192 := by
      have k_1 : (3 : Int32).toInt = 3 := rfl
      have u_2 := rg_e r
      have k_4 : (1 : Int32).toInt = 1 := rfl
      have u_6 := rg_e (q.1 17 (Int32.toNatClampNeg (3 * r)))
      have u_7 := rg_e key
      have v_8 := cv_ne c_2
      have w_9 := hr
      have u_3 := mu_o 3 3 r rfl
      have u_5 := ad_o (3 * r) 1
      exact vp_in_iff.mpr (by omega)
    refine mm_iald (v := (q.1 17 (Int32.toNatClampNeg ((3 * r) + 1)))) hx hb hK hW 17 192 rfl b_3 ((rfl)) dX8_hasKey_21 ?_
    refine lv_iload_n hx hb dX8_hasKey_22 rfl (lv_at hl 2 rfl) ?_
    refine lv_icmp_eq (tgt := 40) hx hb dX8_hasKey_23 (by decide) (fun c_4 => ?_) (fun c_4 => ?_)
    · refine lv_iconst (v := 1) hx hb dX8_hasKey_40 (by decide) ?_
      refine lv_goto (tgt := 45) hx hb dX8_hasKey_41 (by decide) ?_
      exact mm_zret hx hb hr hlk hK hW hS rfl (by rw [m_X8_hasKey, if_neg c_2, if_pos c_4]) dX8_hasKey_45
    · refine lv_aload_n hx hb dX8_hasKey_26 rfl (lv_at hl 0 rfl) ?_
      refine mm_get (v := .ref (ad 21 17)) hx hb hts hin hown hK hW 17 (by decide) (List.mem_of_getElem? (i := 1) rfl) rfl rfl dX8_hasKey_27 ?_
      refine lv_iconst (v := 3) hx hb dX8_hasKey_30 (by decide) ?_
      refine lv_iload_n hx hb dX8_hasKey_31 rfl (lv_at hl 1 rfl) ?_
      refine lv_imul hx hb dX8_hasKey_32 ?_
      refine lv_iconst (v := 2) hx hb dX8_hasKey_33 (by decide) ?_
      refine lv_iadd hx hb dX8_hasKey_34 ?_
      have b_5 : vp_in ((3 * r) + 2) 192 := by
        have k_1 : (3 : Int32).toInt = 3 := rfl
        have u_2 := rg_e r
        have k_4 : (2 : Int32).toInt = 2 := rfl
        have u_6 := rg_e (q.1 17 (Int32.toNatClampNeg (3 * r)))
        have u_7 := rg_e key
        have v_8 := cv_ne c_2
        have k_9 : (1 : Int32).toInt = 1 := rfl
        have u_11 := rg_e (q.1 17 (Int32.toNatClampNeg ((3 * r) + 1)))
        have v_12 := cv_ne c_4
        have w_13 := hr
        have u_3 := mu_o 3 3 r rfl
        have u_5 := ad_o (3 * r) 2
        have u_10 := ad_o (3 * r) 1
        exact vp_in_iff.mpr (by omega)
      refine mm_iald (v := (q.1 17 (Int32.toNatClampNeg ((3 * r) + 2)))) hx hb hK hW 17 192 rfl b_5 ((rfl)) dX8_hasKey_35 ?_
      refine lv_iload_n hx hb dX8_hasKey_36 rfl (lv_at hl 2 rfl) ?_
      refine lv_icmp_ne (tgt := 44) hx hb dX8_hasKey_37 (by decide) (fun c_6 => ?_) (fun c_6 => ?_)
      · refine lv_iconst (v := 0) hx hb dX8_hasKey_44 (by decide) ?_
        exact mm_zret hx hb hr hlk hK hW hS rfl (by rw [m_X8_hasKey, if_neg c_2, if_neg c_4, if_neg c_6]) dX8_hasKey_45
      · refine lv_iconst (v := 1) hx hb dX8_hasKey_40 (by decide) ?_
        refine lv_goto (tgt := 45) hx hb dX8_hasKey_41 (by decide) ?_
        exact mm_zret hx hb hr hlk hK hW hS rfl (by rw [m_X8_hasKey, if_neg c_2, if_neg c_4, if_pos c_6]) dX8_hasKey_45
end

-- ===== PART A: goes FIRST, ahead of the names: the tables' words, and 'selects' of the private methods out of them =====
/-- a private method of a class that the tables say can be made, by its rows of tables_1 -/
def lw_okq (q : MethodName × Nat) : Prop := (q.1.cls ≠ "java/lang/invoke/MethodHandle" ∧ q.1.cls ≠ "java/lang/invoke/VarHandle") ∧ Cond.instantiable q.1.cls q.2 ∈ tables_1 ∧ Cond.privateMethod q.1 ∈ tables_1 ∧ Cond.instanceMethod q.1 ∈ tables_1
theorem lw_p0 : lw_okq (⟨"AckBook", "earliest", "(Z)LAckBook$Space;"⟩, 9) := ⟨⟨by decide +kernel, by decide +kernel⟩, List.mem_of_getElem? (i := 27) (by decide +kernel), List.mem_of_getElem? (i := 274) (by decide +kernel), List.mem_of_getElem? (i := 275) (by decide +kernel)⟩
theorem lw_p1 : lw_okq (⟨"AckBook", "probeTime", "(LAckBook$Space;)I"⟩, 9) := ⟨⟨by decide +kernel, by decide +kernel⟩, List.mem_of_getElem? (i := 27) (by decide +kernel), List.mem_of_getElem? (i := 278) (by decide +kernel), List.mem_of_getElem? (i := 279) (by decide +kernel)⟩
theorem lw_p2 : lw_okq (⟨"AckBook", "patience", "(LAckBook$Space;)I"⟩, 9) := ⟨⟨by decide +kernel, by decide +kernel⟩, List.mem_of_getElem? (i := 27) (by decide +kernel), List.mem_of_getElem? (i := 282) (by decide +kernel), List.mem_of_getElem? (i := 283) (by decide +kernel)⟩
theorem lw_p3 : lw_okq (⟨"AckBook", "probesWithoutCause", "(LAckBook$Space;)Z"⟩, 9) := ⟨⟨by decide +kernel, by decide +kernel⟩, List.mem_of_getElem? (i := 27) (by decide +kernel), List.mem_of_getElem? (i := 293) (by decide +kernel), List.mem_of_getElem? (i := 294) (by decide +kernel)⟩
theorem lw_p4 : lw_okq (⟨"AckBook", "lookForLosses", "(LAckBook$Sent;)V"⟩, 9) := ⟨⟨by decide +kernel, by decide +kernel⟩, List.mem_of_getElem? (i := 27) (by decide +kernel), List.mem_of_getElem? (i := 297) (by decide +kernel), List.mem_of_getElem? (i := 298) (by decide +kernel)⟩
theorem lw_p5 : lw_okq (⟨"AckBook$Sent", "end", "(LAckBook$Packet;ILAckBook$Chain;)V"⟩, 8) := ⟨⟨by decide +kernel, by decide +kernel⟩, List.mem_of_getElem? (i := 42) (by decide +kernel), List.mem_of_getElem? (i := 328) (by decide +kernel), List.mem_of_getElem? (i := 329) (by decide +kernel)⟩
theorem lw_p6 : lw_okq (⟨"AckBook$Flow", "isAfterRecovery", "(LAckBook$Packet;)Z"⟩, 4) := ⟨⟨by decide +kernel, by decide +kernel⟩, List.mem_of_getElem? (i := 219) (by decide +kernel), List.mem_of_getElem? (i := 344) (by decide +kernel), List.mem_of_getElem? (i := 345) (by decide +kernel)⟩
theorem lw_p7 : lw_okq (⟨"AckBook$Sent", "hasAcknowledged", "(II)Z"⟩, 8) := ⟨⟨by decide +kernel, by decide +kernel⟩, List.mem_of_getElem? (i := 42) (by decide +kernel), List.mem_of_getElem? (i := 353) (by decide +kernel), List.mem_of_getElem? (i := 354) (by decide +kernel)⟩
theorem lw_p8 : lw_okq (⟨"AckBook", "known", "(I)LAckBook$Space;"⟩, 9) := ⟨⟨by decide +kernel, by decide +kernel⟩, List.mem_of_getElem? (i := 27) (by decide +kernel), List.mem_of_getElem? (i := 381) (by decide +kernel), List.mem_of_getElem? (i := 382) (by decide +kernel)⟩
theorem lw_p9 : lw_okq (⟨"java/lang/Throwable", "fillInStackTrace", "(I)Ljava/lang/Throwable;"⟩, 6) := ⟨⟨by decide +kernel, by decide +kernel⟩, List.mem_of_getElem? (i := 423) (by decide +kernel), List.mem_of_getElem? (i := 421) (by decide +kernel), List.mem_of_getElem? (i := 422) (by decide +kernel)⟩
theorem lw_p10 : lw_okq (⟨"java/util/ArrayList", "add", "(Ljava/lang/Object;[Ljava/lang/Object;I)V"⟩, 3) := ⟨⟨by decide +kernel, by decide +kernel⟩, List.mem_of_getElem? (i := 61) (by decide +kernel), List.mem_of_getElem? (i := 533) (by decide +kernel), List.mem_of_getElem? (i := 534) (by decide +kernel)⟩
theorem lw_p11 : lw_okq (⟨"java/util/ArrayList", "grow", "()[Ljava/lang/Object;"⟩, 3) := ⟨⟨by decide +kernel, by decide +kernel⟩, List.mem_of_getElem? (i := 61) (by decide +kernel), List.mem_of_getElem? (i := 537) (by decide +kernel), List.mem_of_getElem? (i := 538) (by decide +kernel)⟩
theorem lw_p12 : lw_okq (⟨"java/util/ArrayList", "grow", "(I)[Ljava/lang/Object;"⟩, 3) := ⟨⟨by decide +kernel, by decide +kernel⟩, List.mem_of_getElem? (i := 61) (by decide +kernel), List.mem_of_getElem? (i := 541) (by decide +kernel), List.mem_of_getElem? (i := 542) (by decide +kernel)⟩
theorem lw_p13 : lw_okq (⟨"AckBook", "settle", "(LAckBook$Space;LAckBook$Packet;I)I"⟩, 9) := ⟨⟨by decide +kernel, by decide +kernel⟩, List.mem_of_getElem? (i := 27) (by decide +kernel), List.mem_of_getElem? (i := 635) (by decide +kernel), List.mem_of_getElem? (i := 636) (by decide +kernel)⟩
theorem lw_p14 : lw_okq (⟨"AckBook$Flow", "grow", "(I)V"⟩, 4) := ⟨⟨by decide +kernel, by decide +kernel⟩, List.mem_of_getElem? (i := 219) (by decide +kernel), List.mem_of_getElem? (i := 675) (by decide +kernel), List.mem_of_getElem? (i := 676) (by decide +kernel)⟩
theorem lw_p15 : lw_okq (⟨"AckBook$Arrivals", "firstNotAbove", "(J)I"⟩, 8) := ⟨⟨by decide +kernel, by decide +kernel⟩, List.mem_of_getElem? (i := 119) (by decide +kernel), List.mem_of_getElem? (i := 730) (by decide +kernel), List.mem_of_getElem? (i := 731) (by decide +kernel)⟩
def lw_privs_1 : List (MethodName × Nat) := [(⟨"AckBook", "earliest", "(Z)LAckBook$Space;"⟩, 9), (⟨"AckBook", "probeTime", "(LAckBook$Space;)I"⟩, 9), (⟨"AckBook", "patience", "(LAckBook$Space;)I"⟩, 9), (⟨"AckBook", "probesWithoutCause", "(LAckBook$Space;)Z"⟩, 9), (⟨"AckBook", "lookForLosses", "(LAckBook$Sent;)V"⟩, 9), (⟨"AckBook$Sent", "end", "(LAckBook$Packet;ILAckBook$Chain;)V"⟩, 8), (⟨"AckBook$Flow", "isAfterRecovery", "(LAckBook$Packet;)Z"⟩, 4), (⟨"AckBook$Sent", "hasAcknowledged", "(II)Z"⟩, 8), (⟨"AckBook", "known", "(I)LAckBook$Space;"⟩, 9), (⟨"java/lang/Throwable", "fillInStackTrace", "(I)Ljava/lang/Throwable;"⟩, 6), (⟨"java/util/ArrayList", "add", "(Ljava/lang/Object;[Ljava/lang/Object;I)V"⟩, 3), (⟨"java/util/ArrayList", "grow", "()[Ljava/lang/Object;"⟩, 3), (⟨"java/util/ArrayList", "grow", "(I)[Ljava/lang/Object;"⟩, 3), (⟨"AckBook", "settle", "(LAckBook$Space;LAckBook$Packet;I)I"⟩, 9), (⟨"AckBook$Flow", "grow", "(I)V"⟩, 4), (⟨"AckBook$Arrivals", "firstNotAbove", "(J)I"⟩, 8)]
theorem lw_r1 : ∀ q ∈ lw_privs_1, lw_okq q := List.forall_mem_cons.mpr ⟨lw_p0, List.forall_mem_cons.mpr ⟨lw_p1, List.forall_mem_cons.mpr ⟨lw_p2, List.forall_mem_cons.mpr ⟨lw_p3, List.forall_mem_cons.mpr ⟨lw_p4, List.forall_mem_cons.mpr ⟨lw_p5, List.forall_mem_cons.mpr ⟨lw_p6, List.forall_mem_cons.mpr ⟨lw_p7, List.forall_mem_cons.mpr ⟨lw_p8, List.forall_mem_cons.mpr ⟨lw_p9, List.forall_mem_cons.mpr ⟨lw_p10, List.forall_mem_cons.mpr ⟨lw_p11, List.forall_mem_cons.mpr ⟨lw_p12, List.forall_mem_cons.mpr ⟨lw_p13, List.forall_mem_cons.mpr ⟨lw_p14, List.forall_mem_cons.mpr ⟨lw_p15, fun _ h => absurd h List.not_mem_nil⟩⟩⟩⟩⟩⟩⟩⟩⟩⟩⟩⟩⟩⟩⟩⟩
theorem lw_p16 : lw_okq (⟨"AckBook$Arrivals", "keep", "(JI)V"⟩, 8) := ⟨⟨by decide +kernel, by decide +kernel⟩, List.mem_of_getElem? (i := 119) (by decide +kernel), List.mem_of_getElem? (i := 735) (by decide +kernel), List.mem_of_getElem? (i := 736) (by decide +kernel)⟩
theorem lw_p17 : lw_okq (⟨"AckBook$Arrivals", "remove", "(I)V"⟩, 8) := ⟨⟨by decide +kernel, by decide +kernel⟩, List.mem_of_getElem? (i := 119) (by decide +kernel), List.mem_of_getElem? (i := 739) (by decide +kernel), List.mem_of_getElem? (i := 740) (by decide +kernel)⟩
theorem lw_p18 : lw_okq (⟨"AckBook$Arrivals", "insert", "(JI)V"⟩, 8) := ⟨⟨by decide +kernel, by decide +kernel⟩, List.mem_of_getElem? (i := 119) (by decide +kernel), List.mem_of_getElem? (i := 743) (by decide +kernel), List.mem_of_getElem? (i := 744) (by decide +kernel)⟩
theorem lw_p19 : lw_okq (⟨"AckBook$Arrivals", "hold", "(ZI)V"⟩, 8) := ⟨⟨by decide +kernel, by decide +kernel⟩, List.mem_of_getElem? (i := 119) (by decide +kernel), List.mem_of_getElem? (i := 747) (by decide +kernel), List.mem_of_getElem? (i := 748) (by decide +kernel)⟩
theorem lw_p20 : lw_okq (⟨"AckBookModel", "fails", "(ZI)Z"⟩, 38) := ⟨⟨by decide +kernel, by decide +kernel⟩, List.mem_of_getElem? (i := 814) (by decide +kernel), List.mem_of_getElem? (i := 948) (by decide +kernel), List.mem_of_getElem? (i := 949) (by decide +kernel)⟩
theorem lw_p21 : lw_okq (⟨"AckBookModel", "flight", "()I"⟩, 38) := ⟨⟨by decide +kernel, by decide +kernel⟩, List.mem_of_getElem? (i := 814) (by decide +kernel), List.mem_of_getElem? (i := 952) (by decide +kernel), List.mem_of_getElem? (i := 953) (by decide +kernel)⟩
theorem lw_p22 : lw_okq (⟨"AckBookModel", "isOut", "(II)Z"⟩, 38) := ⟨⟨by decide +kernel, by decide +kernel⟩, List.mem_of_getElem? (i := 814) (by decide +kernel), List.mem_of_getElem? (i := 956) (by decide +kernel), List.mem_of_getElem? (i := 957) (by decide +kernel)⟩
theorem lw_p23 : lw_okq (⟨"AckBookModel", "takes", "(II)I"⟩, 38) := ⟨⟨by decide +kernel, by decide +kernel⟩, List.mem_of_getElem? (i := 814) (by decide +kernel), List.mem_of_getElem? (i := 970) (by decide +kernel), List.mem_of_getElem? (i := 971) (by decide +kernel)⟩
theorem lw_p24 : lw_okq (⟨"AckBookModel", "isNew", "(II)Z"⟩, 38) := ⟨⟨by decide +kernel, by decide +kernel⟩, List.mem_of_getElem? (i := 814) (by decide +kernel), List.mem_of_getElem? (i := 977) (by decide +kernel), List.mem_of_getElem? (i := 978) (by decide +kernel)⟩
theorem lw_p25 : lw_okq (⟨"AckBookModel", "sample", "(II)V"⟩, 38) := ⟨⟨by decide +kernel, by decide +kernel⟩, List.mem_of_getElem? (i := 814) (by decide +kernel), List.mem_of_getElem? (i := 981) (by decide +kernel), List.mem_of_getElem? (i := 982) (by decide +kernel)⟩
theorem lw_p26 : lw_okq (⟨"AckBookModel", "find", "(III)V"⟩, 38) := ⟨⟨by decide +kernel, by decide +kernel⟩, List.mem_of_getElem? (i := 814) (by decide +kernel), List.mem_of_getElem? (i := 985) (by decide +kernel), List.mem_of_getElem? (i := 986) (by decide +kernel)⟩
theorem lw_p27 : lw_okq (⟨"AckBookModel", "grow", "(I)V"⟩, 38) := ⟨⟨by decide +kernel, by decide +kernel⟩, List.mem_of_getElem? (i := 814) (by decide +kernel), List.mem_of_getElem? (i := 989) (by decide +kernel), List.mem_of_getElem? (i := 990) (by decide +kernel)⟩
theorem lw_p28 : lw_okq (⟨"AckBookModel", "isBehindRecovery", "(I)Z"⟩, 38) := ⟨⟨by decide +kernel, by decide +kernel⟩, List.mem_of_getElem? (i := 814) (by decide +kernel), List.mem_of_getElem? (i := 993) (by decide +kernel), List.mem_of_getElem? (i := 994) (by decide +kernel)⟩
theorem lw_p29 : lw_okq (⟨"AckBookModel", "losses", "(I)V"⟩, 38) := ⟨⟨by decide +kernel, by decide +kernel⟩, List.mem_of_getElem? (i := 814) (by decide +kernel), List.mem_of_getElem? (i := 997) (by decide +kernel), List.mem_of_getElem? (i := 998) (by decide +kernel)⟩
theorem lw_p30 : lw_okq (⟨"AckBookModel", "limit", "()I"⟩, 38) := ⟨⟨by decide +kernel, by decide +kernel⟩, List.mem_of_getElem? (i := 814) (by decide +kernel), List.mem_of_getElem? (i := 1001) (by decide +kernel), List.mem_of_getElem? (i := 1002) (by decide +kernel)⟩
theorem lw_p31 : lw_okq (⟨"AckBookModel", "persists", "(II)V"⟩, 38) := ⟨⟨by decide +kernel, by decide +kernel⟩, List.mem_of_getElem? (i := 814) (by decide +kernel), List.mem_of_getElem? (i := 1005) (by decide +kernel), List.mem_of_getElem? (i := 1006) (by decide +kernel)⟩
def lw_privs_2 : List (MethodName × Nat) := [(⟨"AckBook$Arrivals", "keep", "(JI)V"⟩, 8), (⟨"AckBook$Arrivals", "remove", "(I)V"⟩, 8), (⟨"AckBook$Arrivals", "insert", "(JI)V"⟩, 8), (⟨"AckBook$Arrivals", "hold", "(ZI)V"⟩, 8), (⟨"AckBookModel", "fails", "(ZI)Z"⟩, 38), (⟨"AckBookModel", "flight", "()I"⟩, 38), (⟨"AckBookModel", "isOut", "(II)Z"⟩, 38), (⟨"AckBookModel", "takes", "(II)I"⟩, 38), (⟨"AckBookModel", "isNew", "(II)Z"⟩, 38), (⟨"AckBookModel", "sample", "(II)V"⟩, 38), (⟨"AckBookModel", "find", "(III)V"⟩, 38), (⟨"AckBookModel", "grow", "(I)V"⟩, 38), (⟨"AckBookModel", "isBehindRecovery", "(I)Z"⟩, 38), (⟨"AckBookModel", "losses", "(I)V"⟩, 38), (⟨"AckBookModel", "limit", "()I"⟩, 38), (⟨"AckBookModel", "persists", "(II)V"⟩, 38)]
theorem lw_r2 : ∀ q ∈ lw_privs_2, lw_okq q := List.forall_mem_cons.mpr ⟨lw_p16, List.forall_mem_cons.mpr ⟨lw_p17, List.forall_mem_cons.mpr ⟨lw_p18, List.forall_mem_cons.mpr ⟨lw_p19, List.forall_mem_cons.mpr ⟨lw_p20, List.forall_mem_cons.mpr ⟨lw_p21, List.forall_mem_cons.mpr ⟨lw_p22, List.forall_mem_cons.mpr ⟨lw_p23, List.forall_mem_cons.mpr ⟨lw_p24, List.forall_mem_cons.mpr ⟨lw_p25, List.forall_mem_cons.mpr ⟨lw_p26, List.forall_mem_cons.mpr ⟨lw_p27, List.forall_mem_cons.mpr ⟨lw_p28, List.forall_mem_cons.mpr ⟨lw_p29, List.forall_mem_cons.mpr ⟨lw_p30, List.forall_mem_cons.mpr ⟨lw_p31, fun _ h => absurd h List.not_mem_nil⟩⟩⟩⟩⟩⟩⟩⟩⟩⟩⟩⟩⟩⟩⟩⟩
theorem lw_p32 : lw_okq (⟨"AckBookModel", "probeTime", "(I)I"⟩, 38) := ⟨⟨by decide +kernel, by decide +kernel⟩, List.mem_of_getElem? (i := 814) (by decide +kernel), List.mem_of_getElem? (i := 1013) (by decide +kernel), List.mem_of_getElem? (i := 1014) (by decide +kernel)⟩
theorem lw_p33 : lw_okq (⟨"AckBookModel", "outs", "(IZ)I"⟩, 38) := ⟨⟨by decide +kernel, by decide +kernel⟩, List.mem_of_getElem? (i := 814) (by decide +kernel), List.mem_of_getElem? (i := 1017) (by decide +kernel), List.mem_of_getElem? (i := 1018) (by decide +kernel)⟩
theorem lw_p34 : lw_okq (⟨"AckBookModel", "patience", "(I)I"⟩, 38) := ⟨⟨by decide +kernel, by decide +kernel⟩, List.mem_of_getElem? (i := 814) (by decide +kernel), List.mem_of_getElem? (i := 1021) (by decide +kernel), List.mem_of_getElem? (i := 1022) (by decide +kernel)⟩
theorem lw_p35 : lw_okq (⟨"AckBookModel", "firstSpace", "()I"⟩, 38) := ⟨⟨by decide +kernel, by decide +kernel⟩, List.mem_of_getElem? (i := 814) (by decide +kernel), List.mem_of_getElem? (i := 1025) (by decide +kernel), List.mem_of_getElem? (i := 1026) (by decide +kernel)⟩
theorem lw_p36 : lw_okq (⟨"AckBookModel", "isOld", "(IJ)Z"⟩, 38) := ⟨⟨by decide +kernel, by decide +kernel⟩, List.mem_of_getElem? (i := 814) (by decide +kernel), List.mem_of_getElem? (i := 1054) (by decide +kernel), List.mem_of_getElem? (i := 1055) (by decide +kernel)⟩
theorem lw_p37 : lw_okq (⟨"AckBookModel", "greatest", "(I)J"⟩, 38) := ⟨⟨by decide +kernel, by decide +kernel⟩, List.mem_of_getElem? (i := 814) (by decide +kernel), List.mem_of_getElem? (i := 1058) (by decide +kernel), List.mem_of_getElem? (i := 1059) (by decide +kernel)⟩
theorem lw_p38 : lw_okq (⟨"AckBookModel", "comeIn", "(IJ)V"⟩, 38) := ⟨⟨by decide +kernel, by decide +kernel⟩, List.mem_of_getElem? (i := 814) (by decide +kernel), List.mem_of_getElem? (i := 1063) (by decide +kernel), List.mem_of_getElem? (i := 1064) (by decide +kernel)⟩
theorem lw_p39 : lw_okq (⟨"AckBookModel", "takeOut", "(II)V"⟩, 38) := ⟨⟨by decide +kernel, by decide +kernel⟩, List.mem_of_getElem? (i := 814) (by decide +kernel), List.mem_of_getElem? (i := 1067) (by decide +kernel), List.mem_of_getElem? (i := 1068) (by decide +kernel)⟩
def lw_privs_3 : List (MethodName × Nat) := [(⟨"AckBookModel", "probeTime", "(I)I"⟩, 38), (⟨"AckBookModel", "outs", "(IZ)I"⟩, 38), (⟨"AckBookModel", "patience", "(I)I"⟩, 38), (⟨"AckBookModel", "firstSpace", "()I"⟩, 38), (⟨"AckBookModel", "isOld", "(IJ)Z"⟩, 38), (⟨"AckBookModel", "greatest", "(I)J"⟩, 38), (⟨"AckBookModel", "comeIn", "(IJ)V"⟩, 38), (⟨"AckBookModel", "takeOut", "(II)V"⟩, 38)]
theorem lw_r3 : ∀ q ∈ lw_privs_3, lw_okq q := List.forall_mem_cons.mpr ⟨lw_p32, List.forall_mem_cons.mpr ⟨lw_p33, List.forall_mem_cons.mpr ⟨lw_p34, List.forall_mem_cons.mpr ⟨lw_p35, List.forall_mem_cons.mpr ⟨lw_p36, List.forall_mem_cons.mpr ⟨lw_p37, List.forall_mem_cons.mpr ⟨lw_p38, List.forall_mem_cons.mpr ⟨lw_p39, fun _ h => absurd h List.not_mem_nil⟩⟩⟩⟩⟩⟩⟩⟩
def lw_privs : List (MethodName × Nat) := lw_privs_1 ++ (lw_privs_2 ++ (lw_privs_3))
def lw_tbl : List Cond := k2_sels lw_privs ++ tables_1
theorem lw_privs_ok : ∀ q ∈ lw_privs, lw_okq q := by
  show ∀ q ∈ lw_privs_1 ++ (lw_privs_2 ++ (lw_privs_3)), lw_okq q
  exact List.forall_mem_append.mpr ⟨lw_r1, List.forall_mem_append.mpr ⟨lw_r2, lw_r3⟩⟩

def zR0 : String := "AckBook"
def zT0 : u_T := fun k => match k with
  | 0 => ("AckBook", "spaces", "[LAckBook$Space;", true)
  | 1 => ("AckBook", "claim", "LAckBook$Claim;", true)
  | 2 => ("AckBook", "way", "LAckBook$Way;", true)
  | 3 => ("AckBook", "flow", "LAckBook$Flow;", true)
  | 4 => ("AckBook", "time", "I", false)
  | 5 => ("AckBook", "backoff", "I", false)
  | 6 => ("AckBook", "latestSending", "I", false)
  | 7 => ("AckBook", "isConfirmed", "Z", false)
  | _ => ("AckBook", "isAnxious", "Z", false)
def zY0 : Nat → FieldType := fun k => match k with
  | 0 => (.array (.object "AckBook$Space"))
  | 1 => (.object "AckBook$Claim")
  | 2 => (.object "AckBook$Way")
  | 3 => (.object "AckBook$Flow")
  | 4 => .int
  | 5 => .int
  | 6 => .int
  | 7 => .boolean
  | _ => .boolean
def zR1 : String := "AckBook$Space"
def zT1 : u_T := fun k => match k with
  | 0 => ("AckBook$Space", "index", "I", true)
  | 1 => ("AckBook$Space", "sent", "LAckBook$Sent;", true)
  | 2 => ("AckBook$Space", "arrivals", "LAckBook$Arrivals;", true)
  | _ => ("AckBook$Space", "isDiscarded", "Z", false)
def zY1 : Nat → FieldType := fun k => match k with
  | 0 => .int
  | 1 => (.object "AckBook$Sent")
  | 2 => (.object "AckBook$Arrivals")
  | _ => .boolean
def zR2 : String := "AckBook$Sent"
def zT2 : u_T := fun k => match k with
  | 0 => ("AckBook$Sent", "acknowledged", "LAckBook$Chain;", true)
  | 1 => ("AckBook$Sent", "lost", "LAckBook$Chain;", true)
  | 2 => ("AckBook$Sent", "packets", "Ljava/util/ArrayList;", true)
  | 3 => ("AckBook$Sent", "out", "I", false)
  | 4 => ("AckBook$Sent", "elicitingOut", "I", false)
  | 5 => ("AckBook$Sent", "latestEliciting", "I", false)
  | 6 => ("AckBook$Sent", "greatestAcknowledged", "I", false)
  | _ => ("AckBook$Sent", "lossTime", "I", false)
def zY2 : Nat → FieldType := fun k => match k with
  | 0 => (.object "AckBook$Chain")
  | 1 => (.object "AckBook$Chain")
  | 2 => (.object "java/util/ArrayList")
  | 3 => .int
  | 4 => .int
  | 5 => .int
  | 6 => .int
  | _ => .int
def zR3 : String := "AckBook$Chain"
def zT3 : u_T := fun k => match k with
  | 0 => ("AckBook$Chain", "first", "LAckBook$Packet;", false)
  | _ => ("AckBook$Chain", "last", "LAckBook$Packet;", false)
def zY3 : Nat → FieldType := fun k => match k with
  | 0 => (.object "AckBook$Packet")
  | _ => (.object "AckBook$Packet")
def zR4 : String := "java/util/ArrayList"
def zT4 : u_T := fun k => match k with
  | 0 => ("java/util/ArrayList", "elementData", "[Ljava/lang/Object;", false)
  | 1 => ("java/util/ArrayList", "size", "I", false)
  | _ => ("java/util/AbstractList", "modCount", "I", false)
def zY4 : Nat → FieldType := fun k => match k with
  | 0 => (.array (.object "java/lang/Object"))
  | 1 => .int
  | _ => .int
def zR5 : String := "AckBook$Arrivals"
def zT5 : u_T := fun k => match k with
  | 0 => ("AckBook$Arrivals", "lows", "[J", true)
  | 1 => ("AckBook$Arrivals", "highs", "[J", true)
  | 2 => ("AckBook$Arrivals", "count", "I", false)
  | 3 => ("AckBook$Arrivals", "floor", "J", false)
  | 4 => ("AckBook$Arrivals", "pending", "I", false)
  | 5 => ("AckBook$Arrivals", "firstPendingAt", "I", false)
  | 6 => ("AckBook$Arrivals", "isOutOfOrder", "Z", false)
  | _ => ("AckBook$Arrivals", "greatestAt", "I", false)
def zY5 : Nat → FieldType := fun k => match k with
  | 0 => (.array .long)
  | 1 => (.array .long)
  | 2 => .int
  | 3 => .long
  | 4 => .int
  | 5 => .int
  | 6 => .boolean
  | _ => .int
def zR6 : String := "AckBook$Claim"
def zT6 : u_T := fun k => match k with
  | 0 => ("AckBook$Claim", "lows", "[J", true)
  | 1 => ("AckBook$Claim", "highs", "[J", true)
  | 2 => ("AckBook$Claim", "open", "I", false)
  | _ => ("AckBook$Claim", "closed", "I", false)
def zY6 : Nat → FieldType := fun k => match k with
  | 0 => (.array .long)
  | 1 => (.array .long)
  | 2 => .int
  | _ => .int
def zR7 : String := "AckBook$Way"
def zT7 : u_T := fun k => match k with
  | 0 => ("AckBook$Way", "smooth", "I", false)
  | 1 => ("AckBook$Way", "vary", "I", false)
  | 2 => ("AckBook$Way", "latest", "I", false)
  | 3 => ("AckBook$Way", "least", "I", false)
  | _ => ("AckBook$Way", "firstSampleAt", "I", false)
def zY7 : Nat → FieldType := fun k => match k with
  | 0 => .int
  | 1 => .int
  | 2 => .int
  | 3 => .int
  | _ => .int
def zR8 : String := "AckBook$Flow"
def zT8 : u_T := fun k => match k with
  | 0 => ("AckBook$Flow", "inFlight", "I", false)
  | 1 => ("AckBook$Flow", "window", "I", false)
  | 2 => ("AckBook$Flow", "threshold", "I", false)
  | _ => ("AckBook$Flow", "recovery", "I", false)
def zY8 : Nat → FieldType := fun k => match k with
  | 0 => .int
  | 1 => .int
  | 2 => .int
  | _ => .int
def zR9 : String := "AckBook$Packet"
def zT9 : u_T := fun k => match k with
  | 0 => ("AckBook$Packet", "number", "I", true)
  | 1 => ("AckBook$Packet", "size", "I", true)
  | 2 => ("AckBook$Packet", "sentAt", "I", true)
  | 3 => ("AckBook$Packet", "isEliciting", "Z", true)
  | 4 => ("AckBook$Packet", "isCounted", "Z", true)
  | 5 => ("AckBook$Packet", "isFilling", "Z", false)
  | 6 => ("AckBook$Packet", "fate", "I", false)
  | _ => ("AckBook$Packet", "follower", "LAckBook$Packet;", false)
def zY9 : Nat → FieldType := fun k => match k with
  | 0 => .int
  | 1 => .int
  | 2 => .int
  | 3 => .boolean
  | 4 => .boolean
  | 5 => .boolean
  | 6 => .int
  | _ => (.object "AckBook$Packet")
def zR10 : String := "AckBookModel"
def zT10 : u_T := fun k => match k with
  | 0 => ("AckBookModel", "thrown", "I", false)
  | 1 => ("AckBookModel", "time", "I", false)
  | 2 => ("AckBookModel", "confirmed", "Z", false)
  | 3 => ("AckBookModel", "anxious", "Z", false)
  | 4 => ("AckBookModel", "sent", "[I", true)
  | 5 => ("AckBookModel", "size", "[I", true)
  | 6 => ("AckBookModel", "when", "[I", true)
  | 7 => ("AckBookModel", "state", "[I", true)
  | 8 => ("AckBookModel", "eliciting", "[Z", true)
  | 9 => ("AckBookModel", "counted", "[Z", true)
  | 10 => ("AckBookModel", "filling", "[Z", true)
  | 11 => ("AckBookModel", "discarded", "[Z", true)
  | 12 => ("AckBookModel", "top", "[I", true)
  | 13 => ("AckBookModel", "lossTime", "[I", true)
  | 14 => ("AckBookModel", "latestSent", "I", false)
  | 15 => ("AckBookModel", "found", "[I", true)
  | 16 => ("AckBookModel", "founds", "[I", true)
  | 17 => ("AckBookModel", "told", "[I", true)
  | 18 => ("AckBookModel", "smooth", "I", false)
  | 19 => ("AckBookModel", "vary", "I", false)
  | 20 => ("AckBookModel", "latest", "I", false)
  | 21 => ("AckBookModel", "least", "I", false)
  | 22 => ("AckBookModel", "firstSample", "I", false)
  | 23 => ("AckBookModel", "backoff", "I", false)
  | 24 => ("AckBookModel", "window", "I", false)
  | 25 => ("AckBookModel", "threshold", "I", false)
  | 26 => ("AckBookModel", "recovery", "I", false)
  | 27 => ("AckBookModel", "spans", "I", false)
  | 28 => ("AckBookModel", "spanLow", "[J", true)
  | 29 => ("AckBookModel", "spanHigh", "[J", true)
  | 30 => ("AckBookModel", "ranges", "[I", true)
  | 31 => ("AckBookModel", "low", "[J", true)
  | 32 => ("AckBookModel", "high", "[J", true)
  | 33 => ("AckBookModel", "floor", "[J", true)
  | 34 => ("AckBookModel", "greatestAt", "[I", true)
  | 35 => ("AckBookModel", "pending", "[I", true)
  | 36 => ("AckBookModel", "pendingFrom", "[I", true)
  | _ => ("AckBookModel", "odd", "[Z", true)
def zY10 : Nat → FieldType := fun k => match k with
  | 0 => .int
  | 1 => .int
  | 2 => .boolean
  | 3 => .boolean
  | 4 => (.array .int)
  | 5 => (.array .int)
  | 6 => (.array .int)
  | 7 => (.array .int)
  | 8 => (.array .boolean)
  | 9 => (.array .boolean)
  | 10 => (.array .boolean)
  | 11 => (.array .boolean)
  | 12 => (.array .int)
  | 13 => (.array .int)
  | 14 => .int
  | 15 => (.array .int)
  | 16 => (.array .int)
  | 17 => (.array .int)
  | 18 => .int
  | 19 => .int
  | 20 => .int
  | 21 => .int
  | 22 => .int
  | 23 => .int
  | 24 => .int
  | 25 => .int
  | 26 => .int
  | 27 => .int
  | 28 => (.array .long)
  | 29 => (.array .long)
  | 30 => (.array .int)
  | 31 => (.array .long)
  | 32 => (.array .long)
  | 33 => (.array .long)
  | 34 => (.array .int)
  | 35 => (.array .int)
  | 36 => (.array .int)
  | _ => (.array .boolean)
def zR11 : String := "java/lang/IllegalArgumentException"
def zT11 : u_T := fun k => match k with
  | _ => ("", "", "", false)
def zY11 : Nat → FieldType := fun k => match k with
  | _ => .int
def zR12 : String := "java/lang/IllegalStateException"
def zT12 : u_T := fun k => match k with
  | _ => ("", "", "", false)
def zY12 : Nat → FieldType := fun k => match k with
  | _ => .int
def zR13 : String := "java/util/NoSuchElementException"
def zT13 : u_T := fun k => match k with
  | _ => ("", "", "", false)
def zY13 : Nat → FieldType := fun k => match k with
  | _ => .int
abbrev zcl : List vw_C := [(zR0, zT0, 9), (zR1, zT1, 4), (zR2, zT2, 8), (zR3, zT3, 2), (zR4, zT4, 3), (zR5, zT5, 8), (zR6, zT6, 4), (zR7, zT7, 5), (zR8, zT8, 4), (zR9, zT9, 8), (zR10, zT10, 38), (zR11, zT11, 0), (zR12, zT12, 0), (zR13, zT13, 0)]
def z_okb (x : Cond) : Bool := goodWord x || (match x with
  | .castable _ _ => true
  | .fieldLinkNest _ _ _ _ _ _ => true
  | .methodLinkNest _ _ _ _ => true
  | .stringRef _ _ _ => true
  | .declares _ => true
  | .arrayOver (.object _) => true
  | .not (.castable _ _) => true
  | _ => false)
def zNar : List Cond := [.not (.castable "java/lang/IllegalStateException" "java/lang/IllegalArgumentException"), .not (.castable "java/util/NoSuchElementException" "java/lang/IllegalArgumentException")]
def zTB : List Cond := (lw_tbl ++ zNar).filter z_okb
theorem z_okb_ok {x : Cond} (h : z_okb x = true) : z_ok x := by
  unfold z_okb at h
  rcases Bool.or_eq_true _ _ ▸ h with h | h
  · exact z_ok_good h
  · split at h
    · exact z_ok_cast
    · exact z_ok_fln
    · exact z_ok_mln
    · exact z_ok_str
    · exact z_ok_dec
    · exact z_ok_ao
    · exact z_ok_nca
    · cases h
theorem zTB_ok (b0 : Nat) (H0 : Heap) (D : va_G) (ZS : List (String × String × String × Value) × List (String × Nat)) : z_TB (b0, H0, D, zcl, zTB, ZS) := fun x hx => z_okb_ok (List.mem_filter.mp hx).2
theorem z_inT {x : Cond} (i : Nat) (h : tables_1[i]? = some x) (hb : z_okb x = true) : x ∈ zTB := List.mem_filter.mpr ⟨List.mem_append_left _ (List.mem_append_right _ (List.mem_of_getElem? h)), hb⟩
abbrev zGG (b0 : Nat) (H0 : Heap) (D : va_G) (vu vs : Value) (X M : Nat) : zG := (b0, H0, D, zcl, zTB, [(Bundle.tN, "UNASSIGNED_STACK", Bundle.steD, vu), (Bundle.tN, "SUPPRESSED_SENTINEL", Bundle.listD, vs), ("java/util/ArrayList", "DEFAULTCAPACITY_EMPTY_ELEMENTDATA", "[Ljava/lang/Object;", .ref X)], [("[Ljava/lang/Object;", M)])
theorem z_la_i (i : Nat) (x : Int32) (l : List Value) : lv_args i (.int x :: l) = (i, .int x) :: lv_args (i + 1) l := rfl
theorem z_la_j (i : Nat) (x : Int64) (l : List Value) : lv_args i (.long x :: l) = (i, .long x) :: lv_args (i + 2) l := rfl
theorem z_la_r (i : Nat) (r : Option Nat) (l : List Value) : lv_args i (va_rf r :: l) = (i, va_rf r) :: lv_args (i + 1) l := by cases r <;> rfl
theorem z_la_n (i : Nat) : lv_args i [] = [] := rfl
theorem z_sl_i (x : Int32) (l : List Value) : (lg_sl (.int x :: l)).length = (lg_sl l).length + 1 := rfl
theorem z_sl_j (x : Int64) (l : List Value) : (lg_sl (.long x :: l)).length = (lg_sl l).length + 2 := rfl
theorem z_sl_r (r : Option Nat) (l : List Value) : (lg_sl (va_rf r :: l)).length = (lg_sl l).length + 1 := by cases r <;> rfl
theorem z_sl_n : (lg_sl ([] : List Value)).length = 0 := rfl
theorem z_ci (x : Int32) : (Value.int x).category = 1 := rfl
theorem z_cj (x : Int64) : (Value.long x).category = 2 := rfl

def y_AckBook_Chain_init : MethodName := { cls := "AckBook$Chain", name := "<init>", desc := "()V" }
abbrev c_AckBook_Chain_init : ByteArray := prog_3_method_1_code
def y_AbstractCollection_init : MethodName := { cls := "java/util/AbstractCollection", name := "<init>", desc := "()V" }
abbrev c_AbstractCollection_init : ByteArray := prog_23_method_1_code
def y_AbstractList_init : MethodName := { cls := "java/util/AbstractList", name := "<init>", desc := "()V" }
abbrev c_AbstractList_init : ByteArray := prog_24_method_1_code
def y_ArrayList_init : MethodName := { cls := "java/util/ArrayList", name := "<init>", desc := "()V" }
abbrev c_ArrayList_init : ByteArray := prog_25_method_2_code
def y_AckBook_Sent_init : MethodName := { cls := "AckBook$Sent", name := "<init>", desc := "()V" }
abbrev c_AckBook_Sent_init : ByteArray := prog_7_method_1_code
def y_AckBook_Arrivals_init : MethodName := { cls := "AckBook$Arrivals", name := "<init>", desc := "()V" }
abbrev c_AckBook_Arrivals_init : ByteArray := prog_2_method_1_code
def y_AckBook_Space_init : MethodName := { cls := "AckBook$Space", name := "<init>", desc := "(I)V" }
abbrev c_AckBook_Space_init : ByteArray := prog_8_method_1_code
def y_AckBook_Claim_init : MethodName := { cls := "AckBook$Claim", name := "<init>", desc := "()V" }
abbrev c_AckBook_Claim_init : ByteArray := prog_4_method_1_code
def y_AckBook_Way_init : MethodName := { cls := "AckBook$Way", name := "<init>", desc := "()V" }
abbrev c_AckBook_Way_init : ByteArray := prog_9_method_1_code
def y_AckBook_Flow_init : MethodName := { cls := "AckBook$Flow", name := "<init>", desc := "()V" }
abbrev c_AckBook_Flow_init : ByteArray := prog_5_method_1_code
def y_AckBook_init : MethodName := { cls := "AckBook", name := "<init>", desc := "()V" }
abbrev c_AckBook_init : ByteArray := prog_1_method_1_code
def y_AckBook_Way_patience : MethodName := { cls := "AckBook$Way", name := "patience", desc := "()I" }
abbrev c_AckBook_Way_patience : ByteArray := prog_9_method_3_code
def y_AckBook_patience : MethodName := { cls := "AckBook", name := "patience", desc := "(LAckBook$Space;)I" }
abbrev c_AckBook_patience : ByteArray := prog_1_method_23_code
def y_AckBook_probesWithoutCause : MethodName := { cls := "AckBook", name := "probesWithoutCause", desc := "(LAckBook$Space;)Z" }
abbrev c_AckBook_probesWithoutCause : ByteArray := prog_1_method_25_code
def y_AckBook_probeTime : MethodName := { cls := "AckBook", name := "probeTime", desc := "(LAckBook$Space;)I" }
abbrev c_AckBook_probeTime : ByteArray := prog_1_method_24_code
def y_AckBook_earliest : MethodName := { cls := "AckBook", name := "earliest", desc := "(Z)LAckBook$Space;" }
abbrev c_AckBook_earliest : ByteArray := prog_1_method_22_code
def y_AckBook_Way_limit : MethodName := { cls := "AckBook$Way", name := "limit", desc := "()I" }
abbrev c_AckBook_Way_limit : ByteArray := prog_9_method_4_code
def y_ArrayList_size : MethodName := { cls := "java/util/ArrayList", name := "size", desc := "()I" }
abbrev c_ArrayList_size : ByteArray := prog_25_method_8_code
def y_Preconditions_checkIndex : MethodName := { cls := "jdk/internal/util/Preconditions", name := "checkIndex", desc := "(IILjava/util/function/BiFunction;)I" }
abbrev c_Preconditions_checkIndex : ByteArray := prog_34_method_11_code
def y_Objects_checkIndex : MethodName := { cls := "java/util/Objects", name := "checkIndex", desc := "(II)I" }
abbrev c_Objects_checkIndex : ByteArray := prog_30_method_17_code
def y_ArrayList_elementData : MethodName := { cls := "java/util/ArrayList", name := "elementData", desc := "(I)Ljava/lang/Object;" }
abbrev c_ArrayList_elementData : ByteArray := prog_25_method_18_code
def y_ArrayList_get : MethodName := { cls := "java/util/ArrayList", name := "get", desc := "(I)Ljava/lang/Object;" }
abbrev c_ArrayList_get : ByteArray := prog_25_method_20_code
def y_AckBook_Chain_append : MethodName := { cls := "AckBook$Chain", name := "append", desc := "(LAckBook$Packet;)V" }
abbrev c_AckBook_Chain_append : ByteArray := prog_3_method_2_code
def y_AckBook_Sent_end : MethodName := { cls := "AckBook$Sent", name := "end", desc := "(LAckBook$Packet;ILAckBook$Chain;)V" }
abbrev c_AckBook_Sent_end : ByteArray := prog_7_method_8_code
def y_AckBook_Sent_markLost : MethodName := { cls := "AckBook$Sent", name := "markLost", desc := "(II)LAckBook$Packet;" }
abbrev c_AckBook_Sent_markLost : ByteArray := prog_7_method_7_code
def y_AckBook_Flow_leave : MethodName := { cls := "AckBook$Flow", name := "leave", desc := "(LAckBook$Packet;)V" }
abbrev c_AckBook_Flow_leave : ByteArray := prog_5_method_3_code
def y_AckBook_Flow_isAfterRecovery : MethodName := { cls := "AckBook$Flow", name := "isAfterRecovery", desc := "(LAckBook$Packet;)Z" }
abbrev c_AckBook_Flow_isAfterRecovery : ByteArray := prog_5_method_8_code
def y_AckBook_Flow_leaveLost : MethodName := { cls := "AckBook$Flow", name := "leaveLost", desc := "(LAckBook$Packet;I)V" }
abbrev c_AckBook_Flow_leaveLost : ByteArray := prog_5_method_6_code
def y_AckBook_Sent_hasAcknowledged : MethodName := { cls := "AckBook$Sent", name := "hasAcknowledged", desc := "(II)Z" }
abbrev c_AckBook_Sent_hasAcknowledged : ByteArray := prog_7_method_10_code
def y_AckBook_Sent_wasCutOff : MethodName := { cls := "AckBook$Sent", name := "wasCutOff", desc := "(LAckBook$Packet;II)Z" }
abbrev c_AckBook_Sent_wasCutOff : ByteArray := prog_7_method_9_code
def y_AckBook_Flow_collapse : MethodName := { cls := "AckBook$Flow", name := "collapse", desc := "()V" }
abbrev c_AckBook_Flow_collapse : ByteArray := prog_5_method_7_code
def y_AckBook_lookForLosses : MethodName := { cls := "AckBook", name := "lookForLosses", desc := "(LAckBook$Sent;)V" }
abbrev c_AckBook_lookForLosses : ByteArray := prog_1_method_21_code
def y_AckBook_tick : MethodName := { cls := "AckBook", name := "tick", desc := "()I" }
abbrev c_AckBook_tick : ByteArray := prog_1_method_5_code
def y_AckBook_confirm : MethodName := { cls := "AckBook", name := "confirm", desc := "()V" }
abbrev c_AckBook_confirm : ByteArray := prog_1_method_7_code
def y_AckBook_anxious : MethodName := { cls := "AckBook", name := "anxious", desc := "(Z)V" }
abbrev c_AckBook_anxious : ByteArray := prog_1_method_8_code
def y_AckBook_known : MethodName := { cls := "AckBook", name := "known", desc := "(I)LAckBook$Space;" }
abbrev c_AckBook_known : ByteArray := prog_1_method_17_code
def y_AckBook_refuseDiscarded : MethodName := { cls := "AckBook", name := "refuseDiscarded", desc := "(LAckBook$Space;)V" }
abbrev c_AckBook_refuseDiscarded : ByteArray := prog_1_method_18_code
def y_AckBook_Sent_count : MethodName := { cls := "AckBook$Sent", name := "count", desc := "()I" }
abbrev c_AckBook_Sent_count : ByteArray := prog_7_method_2_code
def y_AckBook_Packet_init : MethodName := { cls := "AckBook$Packet", name := "<init>", desc := "(IIIZZ)V" }
abbrev c_AckBook_Packet_init : ByteArray := prog_6_method_1_code
def y_ArraysSupport_hugeLength : MethodName := { cls := "jdk/internal/util/ArraysSupport", name := "hugeLength", desc := "(II)I" }
abbrev c_ArraysSupport_hugeLength : ByteArray := prog_33_method_28_code
def y_ArraysSupport_newLength : MethodName := { cls := "jdk/internal/util/ArraysSupport", name := "newLength", desc := "(III)I" }
abbrev c_ArraysSupport_newLength : ByteArray := prog_33_method_27_code
def y_Arrays_copyOf : MethodName := { cls := "java/util/Arrays", name := "copyOf", desc := "([Ljava/lang/Object;ILjava/lang/Class;)[Ljava/lang/Object;" }
abbrev c_Arrays_copyOf : ByteArray := prog_26_method_120_code
def y_Arrays_copyOf2 : MethodName := { cls := "java/util/Arrays", name := "copyOf", desc := "([Ljava/lang/Object;I)[Ljava/lang/Object;" }
abbrev c_Arrays_copyOf2 : ByteArray := prog_26_method_119_code
def y_ArrayList_grow : MethodName := { cls := "java/util/ArrayList", name := "grow", desc := "(I)[Ljava/lang/Object;" }
abbrev c_ArrayList_grow : ByteArray := prog_25_method_6_code
def y_ArrayList_grow2 : MethodName := { cls := "java/util/ArrayList", name := "grow", desc := "()[Ljava/lang/Object;" }
abbrev c_ArrayList_grow2 : ByteArray := prog_25_method_7_code
def y_ArrayList_add : MethodName := { cls := "java/util/ArrayList", name := "add", desc := "(Ljava/lang/Object;[Ljava/lang/Object;I)V" }
abbrev c_ArrayList_add : ByteArray := prog_25_method_24_code
def y_ArrayList_add2 : MethodName := { cls := "java/util/ArrayList", name := "add", desc := "(Ljava/lang/Object;)Z" }
abbrev c_ArrayList_add2 : ByteArray := prog_25_method_25_code
def y_AckBook_Sent_enter : MethodName := { cls := "AckBook$Sent", name := "enter", desc := "(LAckBook$Packet;)V" }
abbrev c_AckBook_Sent_enter : ByteArray := prog_7_method_4_code
def y_AckBook_Flow_enter : MethodName := { cls := "AckBook$Flow", name := "enter", desc := "(LAckBook$Packet;)V" }
abbrev c_AckBook_Flow_enter : ByteArray := prog_5_method_2_code
def y_AckBook_send : MethodName := { cls := "AckBook", name := "send", desc := "(IIZZ)I" }
abbrev c_AckBook_send : ByteArray := prog_1_method_2_code
def y_AckBookLaw_send : MethodName := { cls := "AckBookLaw", name := "send", desc := "(LAckBook;IIZZ[J)I" }
abbrev c_AckBookLaw_send : ByteArray := method_3_code
def y_AckBook_Claim_isBelow : MethodName := { cls := "AckBook$Claim", name := "isBelow", desc := "(J)Z" }
abbrev c_AckBook_Claim_isBelow : ByteArray := prog_4_method_3_code
def y_AckBook_Claim_isFull : MethodName := { cls := "AckBook$Claim", name := "isFull", desc := "()Z" }
abbrev c_AckBook_Claim_isFull : ByteArray := prog_4_method_2_code
def y_AckBook_Claim_add : MethodName := { cls := "AckBook$Claim", name := "add", desc := "(JJ)I" }
abbrev c_AckBook_Claim_add : ByteArray := prog_4_method_4_code
def y_AckBook_span : MethodName := { cls := "AckBook", name := "span", desc := "(JJ)I" }
abbrev c_AckBook_span : ByteArray := prog_1_method_3_code
def y_AckBookLaw_span : MethodName := { cls := "AckBookLaw", name := "span", desc := "(LAckBook;JJ[J)I" }
abbrev c_AckBookLaw_span : ByteArray := method_4_code
def y_AckBook_Claim_close : MethodName := { cls := "AckBook$Claim", name := "close", desc := "()V" }
abbrev c_AckBook_Claim_close : ByteArray := prog_4_method_5_code
def y_AckBook_Claim_greatest : MethodName := { cls := "AckBook$Claim", name := "greatest", desc := "()J" }
abbrev c_AckBook_Claim_greatest : ByteArray := prog_4_method_6_code
def y_AckBook_Sent_packet : MethodName := { cls := "AckBook$Sent", name := "packet", desc := "(J)LAckBook$Packet;" }
abbrev c_AckBook_Sent_packet : ByteArray := prog_7_method_3_code
def y_AckBook_Sent_raiseGreatest : MethodName := { cls := "AckBook$Sent", name := "raiseGreatest", desc := "(I)V" }
abbrev c_AckBook_Sent_raiseGreatest : ByteArray := prog_7_method_5_code
def y_AckBook_Claim_high : MethodName := { cls := "AckBook$Claim", name := "high", desc := "(I)J" }
abbrev c_AckBook_Claim_high : ByteArray := prog_4_method_8_code
def y_AckBook_Claim_low : MethodName := { cls := "AckBook$Claim", name := "low", desc := "(I)J" }
abbrev c_AckBook_Claim_low : ByteArray := prog_4_method_7_code
def y_AckBook_Sent_markAcknowledged : MethodName := { cls := "AckBook$Sent", name := "markAcknowledged", desc := "(LAckBook$Claim;)LAckBook$Packet;" }
abbrev c_AckBook_Sent_markAcknowledged : ByteArray := prog_7_method_6_code
def y_AckBook_hasEliciting : MethodName := { cls := "AckBook", name := "hasEliciting", desc := "(LAckBook$Packet;)Z" }
abbrev c_AckBook_hasEliciting : ByteArray := prog_1_method_20_code
def y_AckBook_Way_take : MethodName := { cls := "AckBook$Way", name := "take", desc := "(III)V" }
abbrev c_AckBook_Way_take : ByteArray := prog_9_method_2_code
def y_AckBook_Flow_grow : MethodName := { cls := "AckBook$Flow", name := "grow", desc := "(I)V" }
abbrev c_AckBook_Flow_grow : ByteArray := prog_5_method_5_code
def y_AckBook_Flow_leaveAcknowledged : MethodName := { cls := "AckBook$Flow", name := "leaveAcknowledged", desc := "(LAckBook$Packet;)I" }
abbrev c_AckBook_Flow_leaveAcknowledged : ByteArray := prog_5_method_4_code
def y_AckBook_settle : MethodName := { cls := "AckBook", name := "settle", desc := "(LAckBook$Space;LAckBook$Packet;I)I" }
abbrev c_AckBook_settle : ByteArray := prog_1_method_19_code
def y_AckBook_acknowledge : MethodName := { cls := "AckBook", name := "acknowledge", desc := "(II)I" }
abbrev c_AckBook_acknowledge : ByteArray := prog_1_method_4_code
def y_AckBookLaw_acknowledge : MethodName := { cls := "AckBookLaw", name := "acknowledge", desc := "(LAckBook;II[J)I" }
abbrev c_AckBookLaw_acknowledge : ByteArray := method_5_code
def y_AckBook_Chain_clear : MethodName := { cls := "AckBook$Chain", name := "clear", desc := "()V" }
abbrev c_AckBook_Chain_clear : ByteArray := prog_3_method_4_code
def y_AckBook_Sent_forget : MethodName := { cls := "AckBook$Sent", name := "forget", desc := "(LAckBook$Flow;)V" }
abbrev c_AckBook_Sent_forget : ByteArray := prog_7_method_11_code
def y_AckBook_Arrivals_forget : MethodName := { cls := "AckBook$Arrivals", name := "forget", desc := "()V" }
abbrev c_AckBook_Arrivals_forget : ByteArray := prog_2_method_10_code
def y_AckBook_discard : MethodName := { cls := "AckBook", name := "discard", desc := "(I)V" }
abbrev c_AckBook_discard : ByteArray := prog_1_method_6_code
def y_AckBookLaw_discard : MethodName := { cls := "AckBookLaw", name := "discard", desc := "(LAckBook;I)I" }
abbrev c_AckBookLaw_discard : ByteArray := method_6_code
def y_AckBook_Chain_removeFirst : MethodName := { cls := "AckBook$Chain", name := "removeFirst", desc := "()I" }
abbrev c_AckBook_Chain_removeFirst : ByteArray := prog_3_method_3_code
def y_AckBook_next : MethodName := { cls := "AckBook", name := "next", desc := "(IZ)I" }
abbrev c_AckBook_next : ByteArray := prog_1_method_9_code
def y_AckBookLaw_next : MethodName := { cls := "AckBookLaw", name := "next", desc := "(LAckBook;IZ[J)I" }
abbrev c_AckBookLaw_next : ByteArray := method_7_code
def y_AckBook_state : MethodName := { cls := "AckBook", name := "state", desc := "(II)I" }
abbrev c_AckBook_state : ByteArray := prog_1_method_10_code
def y_AckBookLaw_state : MethodName := { cls := "AckBookLaw", name := "state", desc := "(LAckBook;II[J)I" }
abbrev c_AckBookLaw_state : ByteArray := method_8_code
def y_AckBook_Arrivals_firstNotAbove : MethodName := { cls := "AckBook$Arrivals", name := "firstNotAbove", desc := "(J)I" }
abbrev c_AckBook_Arrivals_firstNotAbove : ByteArray := prog_2_method_3_code
def y_AckBook_Arrivals_remove : MethodName := { cls := "AckBook$Arrivals", name := "remove", desc := "(I)V" }
abbrev c_AckBook_Arrivals_remove : ByteArray := prog_2_method_5_code
def y_AckBook_Arrivals_insert : MethodName := { cls := "AckBook$Arrivals", name := "insert", desc := "(JI)V" }
abbrev c_AckBook_Arrivals_insert : ByteArray := prog_2_method_6_code
def y_AckBook_Arrivals_keep : MethodName := { cls := "AckBook$Arrivals", name := "keep", desc := "(JI)V" }
abbrev c_AckBook_Arrivals_keep : ByteArray := prog_2_method_4_code
def y_AckBook_Arrivals_hold : MethodName := { cls := "AckBook$Arrivals", name := "hold", desc := "(ZI)V" }
abbrev c_AckBook_Arrivals_hold : ByteArray := prog_2_method_7_code
def y_AckBook_Arrivals_enter : MethodName := { cls := "AckBook$Arrivals", name := "enter", desc := "(JZI)Z" }
abbrev c_AckBook_Arrivals_enter : ByteArray := prog_2_method_2_code
def y_AckBook_came : MethodName := { cls := "AckBook", name := "came", desc := "(IJZ)Z" }
abbrev c_AckBook_came : ByteArray := prog_1_method_11_code
def y_AckBookLaw_came : MethodName := { cls := "AckBookLaw", name := "came", desc := "(LAckBook;IJZ[J)I" }
abbrev c_AckBookLaw_came : ByteArray := method_9_code
def y_AckBook_Arrivals_isPressing : MethodName := { cls := "AckBook$Arrivals", name := "isPressing", desc := "(I)Z" }
abbrev c_AckBook_Arrivals_isPressing : ByteArray := prog_2_method_8_code
def y_AckBook_due : MethodName := { cls := "AckBook", name := "due", desc := "(I)Z" }
abbrev c_AckBook_due : ByteArray := prog_1_method_12_code
def y_AckBookLaw_due : MethodName := { cls := "AckBookLaw", name := "due", desc := "(LAckBook;I[J)I" }
abbrev c_AckBookLaw_due : ByteArray := method_10_code
def y_AckBook_Arrivals_settle : MethodName := { cls := "AckBook$Arrivals", name := "settle", desc := "(I)I" }
abbrev c_AckBook_Arrivals_settle : ByteArray := prog_2_method_9_code
def y_AckBook_written : MethodName := { cls := "AckBook", name := "written", desc := "(I)I" }
abbrev c_AckBook_written : ByteArray := prog_1_method_13_code
def y_AckBookLaw_written : MethodName := { cls := "AckBookLaw", name := "written", desc := "(LAckBook;I[J)I" }
abbrev c_AckBookLaw_written : ByteArray := method_11_code
def y_AckBook_range : MethodName := { cls := "AckBook", name := "range", desc := "(IIZ)J" }
abbrev c_AckBook_range : ByteArray := prog_1_method_14_code
def y_AckBookLaw_range : MethodName := { cls := "AckBookLaw", name := "range", desc := "(LAckBook;IIZ[J)I" }
abbrev c_AckBookLaw_range : ByteArray := method_12_code
def y_AckBook_look : MethodName := { cls := "AckBook", name := "look", desc := "(I)I" }
abbrev c_AckBook_look : ByteArray := prog_1_method_15_code
def y_AckBookLaw_look : MethodName := { cls := "AckBookLaw", name := "look", desc := "(LAckBook;I[J)I" }
abbrev c_AckBookLaw_look : ByteArray := method_13_code
def y_AckBook_space : MethodName := { cls := "AckBook", name := "space", desc := "(II)J" }
abbrev c_AckBook_space : ByteArray := prog_1_method_16_code
def y_AckBookLaw_space : MethodName := { cls := "AckBookLaw", name := "space", desc := "(LAckBook;II[J)I" }
abbrev c_AckBookLaw_space : ByteArray := method_14_code
def y_AckBookModel_init : MethodName := { cls := "AckBookModel", name := "<init>", desc := "()V" }
abbrev c_AckBookModel_init : ByteArray := prog_11_method_1_code
def y_AckBookModel_thrown : MethodName := { cls := "AckBookModel", name := "thrown", desc := "()I" }
abbrev c_AckBookModel_thrown : ByteArray := prog_11_method_2_code
def y_AckBookModel_noSpace : MethodName := { cls := "AckBookModel", name := "noSpace", desc := "(I)Z" }
abbrev c_AckBookModel_noSpace : ByteArray := prog_11_method_4_code
def y_AckBookModel_fails : MethodName := { cls := "AckBookModel", name := "fails", desc := "(ZI)Z" }
abbrev c_AckBookModel_fails : ByteArray := prog_11_method_3_code
def y_AckBookModel_isOut : MethodName := { cls := "AckBookModel", name := "isOut", desc := "(II)Z" }
abbrev c_AckBookModel_isOut : ByteArray := prog_11_method_6_code
def y_AckBookModel_flight : MethodName := { cls := "AckBookModel", name := "flight", desc := "()I" }
abbrev c_AckBookModel_flight : ByteArray := prog_11_method_7_code
def y_AckBookModel_send : MethodName := { cls := "AckBookModel", name := "send", desc := "(IIZZ)I" }
abbrev c_AckBookModel_send : ByteArray := prog_11_method_13_code
def y_AckBookModel_span : MethodName := { cls := "AckBookModel", name := "span", desc := "(JJ)I" }
abbrev c_AckBookModel_span : ByteArray := prog_11_method_14_code
def y_AckBookModel_greater : MethodName := { cls := "AckBookModel", name := "greater", desc := "(II)I" }
abbrev c_AckBookModel_greater : ByteArray := prog_11_method_5_code
def y_AckBookModel_isNew : MethodName := { cls := "AckBookModel", name := "isNew", desc := "(II)Z" }
abbrev c_AckBookModel_isNew : ByteArray := prog_11_method_19_code
def y_AckBookModel_sample : MethodName := { cls := "AckBookModel", name := "sample", desc := "(II)V" }
abbrev c_AckBookModel_sample : ByteArray := prog_11_method_15_code
def y_AckBookModel_find : MethodName := { cls := "AckBookModel", name := "find", desc := "(III)V" }
abbrev c_AckBookModel_find : ByteArray := prog_11_method_18_code
def y_AckBookModel_isBehindRecovery : MethodName := { cls := "AckBookModel", name := "isBehindRecovery", desc := "(I)Z" }
abbrev c_AckBookModel_isBehindRecovery : ByteArray := prog_11_method_16_code
def y_AckBookModel_grow : MethodName := { cls := "AckBookModel", name := "grow", desc := "(I)V" }
abbrev c_AckBookModel_grow : ByteArray := prog_11_method_17_code
def y_AckBookModel_limit : MethodName := { cls := "AckBookModel", name := "limit", desc := "()I" }
abbrev c_AckBookModel_limit : ByteArray := prog_11_method_10_code
def y_AckBookModel_persists : MethodName := { cls := "AckBookModel", name := "persists", desc := "(II)V" }
abbrev c_AckBookModel_persists : ByteArray := prog_11_method_23_code
def y_AckBookModel_losses : MethodName := { cls := "AckBookModel", name := "losses", desc := "(I)V" }
abbrev c_AckBookModel_losses : ByteArray := prog_11_method_22_code
def y_AckBookModel_takes : MethodName := { cls := "AckBookModel", name := "takes", desc := "(II)I" }
abbrev c_AckBookModel_takes : ByteArray := prog_11_method_20_code
def y_AckBookModel_acknowledge : MethodName := { cls := "AckBookModel", name := "acknowledge", desc := "(II)I" }
abbrev c_AckBookModel_acknowledge : ByteArray := prog_11_method_21_code
def y_AckBookModel_outs : MethodName := { cls := "AckBookModel", name := "outs", desc := "(IZ)I" }
abbrev c_AckBookModel_outs : ByteArray := prog_11_method_8_code
def y_AckBookModel_patience : MethodName := { cls := "AckBookModel", name := "patience", desc := "(I)I" }
abbrev c_AckBookModel_patience : ByteArray := prog_11_method_9_code
def y_AckBookModel_firstSpace : MethodName := { cls := "AckBookModel", name := "firstSpace", desc := "()I" }
abbrev c_AckBookModel_firstSpace : ByteArray := prog_11_method_11_code
def y_AckBookModel_probeTime : MethodName := { cls := "AckBookModel", name := "probeTime", desc := "(I)I" }
abbrev c_AckBookModel_probeTime : ByteArray := prog_11_method_12_code
def y_AckBookModel_tick : MethodName := { cls := "AckBookModel", name := "tick", desc := "()I" }
abbrev c_AckBookModel_tick : ByteArray := prog_11_method_24_code
def y_AckBookModel_discard : MethodName := { cls := "AckBookModel", name := "discard", desc := "(I)V" }
abbrev c_AckBookModel_discard : ByteArray := prog_11_method_25_code
def y_AckBookModel_confirm : MethodName := { cls := "AckBookModel", name := "confirm", desc := "()V" }
abbrev c_AckBookModel_confirm : ByteArray := prog_11_method_26_code
def y_AckBookModel_anxious : MethodName := { cls := "AckBookModel", name := "anxious", desc := "(Z)V" }
abbrev c_AckBookModel_anxious : ByteArray := prog_11_method_27_code
def y_AckBookModel_next : MethodName := { cls := "AckBookModel", name := "next", desc := "(IZ)I" }
abbrev c_AckBookModel_next : ByteArray := prog_11_method_28_code
def y_AckBookModel_state : MethodName := { cls := "AckBookModel", name := "state", desc := "(II)I" }
abbrev c_AckBookModel_state : ByteArray := prog_11_method_29_code
def y_AckBookModel_isOld : MethodName := { cls := "AckBookModel", name := "isOld", desc := "(IJ)Z" }
abbrev c_AckBookModel_isOld : ByteArray := prog_11_method_30_code
def y_AckBookModel_greatest : MethodName := { cls := "AckBookModel", name := "greatest", desc := "(I)J" }
abbrev c_AckBookModel_greatest : ByteArray := prog_11_method_31_code
def y_AckBookModel_takeOut : MethodName := { cls := "AckBookModel", name := "takeOut", desc := "(II)V" }
abbrev c_AckBookModel_takeOut : ByteArray := prog_11_method_32_code
def y_AckBookModel_comeIn : MethodName := { cls := "AckBookModel", name := "comeIn", desc := "(IJ)V" }
abbrev c_AckBookModel_comeIn : ByteArray := prog_11_method_33_code
def y_AckBookModel_came : MethodName := { cls := "AckBookModel", name := "came", desc := "(IJZ)Z" }
abbrev c_AckBookModel_came : ByteArray := prog_11_method_34_code
def y_AckBookModel_due : MethodName := { cls := "AckBookModel", name := "due", desc := "(I)Z" }
abbrev c_AckBookModel_due : ByteArray := prog_11_method_35_code
def y_AckBookModel_written : MethodName := { cls := "AckBookModel", name := "written", desc := "(I)I" }
abbrev c_AckBookModel_written : ByteArray := prog_11_method_36_code
def y_AckBookModel_range : MethodName := { cls := "AckBookModel", name := "range", desc := "(IIZ)J" }
abbrev c_AckBookModel_range : ByteArray := prog_11_method_37_code
def y_AckBookModel_look : MethodName := { cls := "AckBookModel", name := "look", desc := "(I)I" }
abbrev c_AckBookModel_look : ByteArray := prog_11_method_38_code
def y_AckBookModel_space : MethodName := { cls := "AckBookModel", name := "space", desc := "(II)J" }
abbrev c_AckBookModel_space : ByteArray := prog_11_method_39_code
abbrev c_AckBookLaw_law : ByteArray := code

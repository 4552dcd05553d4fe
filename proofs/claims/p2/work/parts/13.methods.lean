def y_AckBook_Chain_init : MethodName := { cls := "AckBook$Chain", name := "<init>", desc := "()V" }
abbrev c_AckBook_Chain_init : ByteArray := prog_3_method_1_code
def y_AckBook_Arrivals_init : MethodName := { cls := "AckBook$Arrivals", name := "<init>", desc := "()V" }
abbrev c_AckBook_Arrivals_init : ByteArray := prog_2_method_1_code
def y_AckBook_Claim_init : MethodName := { cls := "AckBook$Claim", name := "<init>", desc := "()V" }
abbrev c_AckBook_Claim_init : ByteArray := prog_4_method_1_code
def y_AckBook_Way_init : MethodName := { cls := "AckBook$Way", name := "<init>", desc := "()V" }
abbrev c_AckBook_Way_init : ByteArray := prog_9_method_1_code
def y_AckBook_Flow_init : MethodName := { cls := "AckBook$Flow", name := "<init>", desc := "()V" }
abbrev c_AckBook_Flow_init : ByteArray := prog_5_method_1_code
def y_AckBook_Way_patience : MethodName := { cls := "AckBook$Way", name := "patience", desc := "()I" }
abbrev c_AckBook_Way_patience : ByteArray := prog_9_method_3_code
def y_AckBook_Way_limit : MethodName := { cls := "AckBook$Way", name := "limit", desc := "()I" }
abbrev c_AckBook_Way_limit : ByteArray := prog_9_method_4_code
def y_AckBook_Chain_append : MethodName := { cls := "AckBook$Chain", name := "append", desc := "(LAckBook$Packet;)V" }
abbrev c_AckBook_Chain_append : ByteArray := prog_3_method_2_code
def y_AckBook_Flow_leave : MethodName := { cls := "AckBook$Flow", name := "leave", desc := "(LAckBook$Packet;)V" }
abbrev c_AckBook_Flow_leave : ByteArray := prog_5_method_3_code
def y_AckBook_Flow_isAfterRecovery : MethodName := { cls := "AckBook$Flow", name := "isAfterRecovery", desc := "(LAckBook$Packet;)Z" }
abbrev c_AckBook_Flow_isAfterRecovery : ByteArray := prog_5_method_8_code
def y_AckBook_Flow_leaveLost : MethodName := { cls := "AckBook$Flow", name := "leaveLost", desc := "(LAckBook$Packet;I)V" }
abbrev c_AckBook_Flow_leaveLost : ByteArray := prog_5_method_6_code
def y_AckBook_Flow_collapse : MethodName := { cls := "AckBook$Flow", name := "collapse", desc := "()V" }
abbrev c_AckBook_Flow_collapse : ByteArray := prog_5_method_7_code
def y_AckBook_Packet_init : MethodName := { cls := "AckBook$Packet", name := "<init>", desc := "(IIIZZ)V" }
abbrev c_AckBook_Packet_init : ByteArray := prog_6_method_1_code
def y_AckBook_Flow_enter : MethodName := { cls := "AckBook$Flow", name := "enter", desc := "(LAckBook$Packet;)V" }
abbrev c_AckBook_Flow_enter : ByteArray := prog_5_method_2_code
def y_AckBook_Claim_isBelow : MethodName := { cls := "AckBook$Claim", name := "isBelow", desc := "(J)Z" }
abbrev c_AckBook_Claim_isBelow : ByteArray := prog_4_method_3_code
def y_AckBook_Claim_isFull : MethodName := { cls := "AckBook$Claim", name := "isFull", desc := "()Z" }
abbrev c_AckBook_Claim_isFull : ByteArray := prog_4_method_2_code
def y_AckBook_Claim_add : MethodName := { cls := "AckBook$Claim", name := "add", desc := "(JJ)I" }
abbrev c_AckBook_Claim_add : ByteArray := prog_4_method_4_code
def y_AckBook_Claim_close : MethodName := { cls := "AckBook$Claim", name := "close", desc := "()V" }
abbrev c_AckBook_Claim_close : ByteArray := prog_4_method_5_code
def y_AckBook_Claim_greatest : MethodName := { cls := "AckBook$Claim", name := "greatest", desc := "()J" }
abbrev c_AckBook_Claim_greatest : ByteArray := prog_4_method_6_code
def y_AckBook_Claim_high : MethodName := { cls := "AckBook$Claim", name := "high", desc := "(I)J" }
abbrev c_AckBook_Claim_high : ByteArray := prog_4_method_8_code
def y_AckBook_Claim_low : MethodName := { cls := "AckBook$Claim", name := "low", desc := "(I)J" }
abbrev c_AckBook_Claim_low : ByteArray := prog_4_method_7_code
def y_AckBook_Way_take : MethodName := { cls := "AckBook$Way", name := "take", desc := "(III)V" }
abbrev c_AckBook_Way_take : ByteArray := prog_9_method_2_code
def y_AckBook_Flow_grow : MethodName := { cls := "AckBook$Flow", name := "grow", desc := "(I)V" }
abbrev c_AckBook_Flow_grow : ByteArray := prog_5_method_5_code
def y_AckBook_Flow_leaveAcknowledged : MethodName := { cls := "AckBook$Flow", name := "leaveAcknowledged", desc := "(LAckBook$Packet;)I" }
abbrev c_AckBook_Flow_leaveAcknowledged : ByteArray := prog_5_method_4_code
def y_AckBook_Chain_clear : MethodName := { cls := "AckBook$Chain", name := "clear", desc := "()V" }
abbrev c_AckBook_Chain_clear : ByteArray := prog_3_method_4_code
def y_AckBook_Arrivals_forget : MethodName := { cls := "AckBook$Arrivals", name := "forget", desc := "()V" }
abbrev c_AckBook_Arrivals_forget : ByteArray := prog_2_method_10_code
def y_AckBook_Chain_removeFirst : MethodName := { cls := "AckBook$Chain", name := "removeFirst", desc := "()I" }
abbrev c_AckBook_Chain_removeFirst : ByteArray := prog_3_method_3_code
def y_AckBook_Arrivals_firstNotAbove : MethodName := { cls := "AckBook$Arrivals", name := "firstNotAbove", desc := "(J)I" }
abbrev c_AckBook_Arrivals_firstNotAbove : ByteArray := prog_2_method_3_code
def y_AckBook_Arrivals_remove : MethodName := { cls := "AckBook$Arrivals", name := "remove", desc := "(I)V" }
abbrev c_AckBook_Arrivals_remove : ByteArray := prog_2_method_5_code
def y_AckBook_Arrivals_insert : MethodName := { cls := "AckBook$Arrivals", name := "insert", desc := "(JI)V" }
abbrev c_AckBook_Arrivals_insert : ByteArray := prog_2_method_6_code
def y_AckBook_Arrivals_keep : MethodName := { cls := "AckBook$Arrivals", name := "keep", desc := "(JI)V" }
abbrev c_AckBook_Arrivals_keep : ByteArray := prog_2_method_4_code
def y_AckBook_Arrivals_hold : MethodName := { cls := "AckBook$Arrivals", name := "hold", desc := "(ZI)V" }
abbrev c_AckBook_Arrivals_hold : ByteArray := prog_2_method_7_code
def y_AckBook_Arrivals_enter : MethodName := { cls := "AckBook$Arrivals", name := "enter", desc := "(JZI)Z" }
abbrev c_AckBook_Arrivals_enter : ByteArray := prog_2_method_2_code
def y_AckBook_Arrivals_isPressing : MethodName := { cls := "AckBook$Arrivals", name := "isPressing", desc := "(I)Z" }
abbrev c_AckBook_Arrivals_isPressing : ByteArray := prog_2_method_8_code
def y_AckBook_Arrivals_settle : MethodName := { cls := "AckBook$Arrivals", name := "settle", desc := "(I)I" }
abbrev c_AckBook_Arrivals_settle : ByteArray := prog_2_method_9_code

theorem zc0 {b0 : Nat} {H0 : Heap} {D : va_G} {vu vs : Value} {X M : Nat} : z_cls (zGG b0 H0 D vu vs X M) 0 zR0 zT0 9 zY0 := by
  refine ⟨rfl, fun x hx => ?_, by decide +kernel, by decide +kernel⟩
  obtain ⟨k, hk, rfl⟩ := List.mem_map.mp hx
  have hk := List.mem_range.mp hk
  match k, hk with
  | 0, _ => exact t_250
  | 1, _ => exact t_252
  | 2, _ => exact t_254
  | 3, _ => exact t_256
  | 4, _ => exact t_258
  | 5, _ => exact t_260
  | 6, _ => exact t_262
  | 7, _ => exact t_264
  | 8, _ => exact t_266
  | _ + 9, hk => exact absurd hk (by omega)
theorem zc1 {b0 : Nat} {H0 : Heap} {D : va_G} {vu vs : Value} {X M : Nat} : z_cls (zGG b0 H0 D vu vs X M) 1 zR1 zT1 4 zY1 := by
  refine ⟨rfl, fun x hx => ?_, by decide +kernel, by decide +kernel⟩
  obtain ⟨k, hk, rfl⟩ := List.mem_map.mp hx
  have hk := List.mem_range.mp hk
  match k, hk with
  | 0, _ => exact t_162
  | 1, _ => exact t_164
  | 2, _ => exact t_166
  | 3, _ => exact t_168
  | _ + 4, hk => exact absurd hk (by omega)
theorem zc2 {b0 : Nat} {H0 : Heap} {D : va_G} {vu vs : Value} {X M : Nat} : z_cls (zGG b0 H0 D vu vs X M) 2 zR2 zT2 8 zY2 := by
  refine ⟨rfl, fun x hx => ?_, by decide +kernel, by decide +kernel⟩
  obtain ⟨k, hk, rfl⟩ := List.mem_map.mp hx
  have hk := List.mem_range.mp hk
  match k, hk with
  | 0, _ => exact t_101
  | 1, _ => exact t_103
  | 2, _ => exact t_105
  | 3, _ => exact t_107
  | 4, _ => exact t_109
  | 5, _ => exact t_111
  | 6, _ => exact t_113
  | 7, _ => exact t_115
  | _ + 8, hk => exact absurd hk (by omega)
theorem zc3 {b0 : Nat} {H0 : Heap} {D : va_G} {vu vs : Value} {X M : Nat} : z_cls (zGG b0 H0 D vu vs X M) 3 zR3 zT3 2 zY3 := by
  refine ⟨rfl, fun x hx => ?_, by decide +kernel, by decide +kernel⟩
  obtain ⟨k, hk, rfl⟩ := List.mem_map.mp hx
  have hk := List.mem_range.mp hk
  match k, hk with
  | 0, _ => exact t_55
  | 1, _ => exact t_57
  | _ + 2, hk => exact absurd hk (by omega)
theorem zc4 {b0 : Nat} {H0 : Heap} {D : va_G} {vu vs : Value} {X M : Nat} : z_cls (zGG b0 H0 D vu vs X M) 4 zR4 zT4 3 zY4 := by
  refine ⟨rfl, fun x hx => ?_, by decide +kernel, by decide +kernel⟩
  obtain ⟨k, hk, rfl⟩ := List.mem_map.mp hx
  have hk := List.mem_range.mp hk
  match k, hk with
  | 0, _ => exact t_79
  | 1, _ => exact t_81
  | 2, _ => exact t_83
  | _ + 3, hk => exact absurd hk (by omega)
theorem zc5 {b0 : Nat} {H0 : Heap} {D : va_G} {vu vs : Value} {X M : Nat} : z_cls (zGG b0 H0 D vu vs X M) 5 zR5 zT5 8 zY5 := by
  refine ⟨rfl, fun x hx => ?_, by decide +kernel, by decide +kernel⟩
  obtain ⟨k, hk, rfl⟩ := List.mem_map.mp hx
  have hk := List.mem_range.mp hk
  match k, hk with
  | 0, _ => exact t_137
  | 1, _ => exact t_139
  | 2, _ => exact t_141
  | 3, _ => exact t_143
  | 4, _ => exact t_145
  | 5, _ => exact t_147
  | 6, _ => exact t_149
  | 7, _ => exact t_151
  | _ + 8, hk => exact absurd hk (by omega)
theorem zc6 {b0 : Nat} {H0 : Heap} {D : va_G} {vu vs : Value} {X M : Nat} : z_cls (zGG b0 H0 D vu vs X M) 6 zR6 zT6 4 zY6 := by
  refine ⟨rfl, fun x hx => ?_, by decide +kernel, by decide +kernel⟩
  obtain ⟨k, hk, rfl⟩ := List.mem_map.mp hx
  have hk := List.mem_range.mp hk
  match k, hk with
  | 0, _ => exact t_182
  | 1, _ => exact t_184
  | 2, _ => exact t_186
  | 3, _ => exact t_188
  | _ + 4, hk => exact absurd hk (by omega)
theorem zc7 {b0 : Nat} {H0 : Heap} {D : va_G} {vu vs : Value} {X M : Nat} : z_cls (zGG b0 H0 D vu vs X M) 7 zR7 zT7 5 zY7 := by
  refine ⟨rfl, fun x hx => ?_, by decide +kernel, by decide +kernel⟩
  obtain ⟨k, hk, rfl⟩ := List.mem_map.mp hx
  have hk := List.mem_range.mp hk
  match k, hk with
  | 0, _ => exact t_207
  | 1, _ => exact t_209
  | 2, _ => exact t_211
  | 3, _ => exact t_213
  | 4, _ => exact t_215
  | _ + 5, hk => exact absurd hk (by omega)
theorem zc8 {b0 : Nat} {H0 : Heap} {D : va_G} {vu vs : Value} {X M : Nat} : z_cls (zGG b0 H0 D vu vs X M) 8 zR8 zT8 4 zY8 := by
  refine ⟨rfl, fun x hx => ?_, by decide +kernel, by decide +kernel⟩
  obtain ⟨k, hk, rfl⟩ := List.mem_map.mp hx
  have hk := List.mem_range.mp hk
  match k, hk with
  | 0, _ => exact t_232
  | 1, _ => exact t_234
  | 2, _ => exact t_236
  | 3, _ => exact t_238
  | _ + 4, hk => exact absurd hk (by omega)
theorem zc9 {b0 : Nat} {H0 : Heap} {D : va_G} {vu vs : Value} {X M : Nat} : z_cls (zGG b0 H0 D vu vs X M) 9 zR9 zT9 8 zY9 := by
  refine ⟨rfl, fun x hx => ?_, by decide +kernel, by decide +kernel⟩
  obtain ⟨k, hk, rfl⟩ := List.mem_map.mp hx
  have hk := List.mem_range.mp hk
  match k, hk with
  | 0, _ => exact t_507
  | 1, _ => exact t_509
  | 2, _ => exact t_511
  | 3, _ => exact t_513
  | 4, _ => exact t_515
  | 5, _ => exact t_517
  | 6, _ => exact t_519
  | 7, _ => exact t_521
  | _ + 8, hk => exact absurd hk (by omega)
theorem zc10 {b0 : Nat} {H0 : Heap} {D : va_G} {vu vs : Value} {X M : Nat} : z_cls (zGG b0 H0 D vu vs X M) 10 zR10 zT10 38 zY10 := by
  refine ⟨rfl, fun x hx => ?_, by decide +kernel, by decide +kernel⟩
  obtain ⟨k, hk, rfl⟩ := List.mem_map.mp hx
  have hk := List.mem_range.mp hk
  match k, hk with
  | 0, _ => exact t_857
  | 1, _ => exact t_859
  | 2, _ => exact t_861
  | 3, _ => exact t_863
  | 4, _ => exact t_865
  | 5, _ => exact t_867
  | 6, _ => exact t_869
  | 7, _ => exact t_871
  | 8, _ => exact t_873
  | 9, _ => exact t_875
  | 10, _ => exact t_877
  | 11, _ => exact t_879
  | 12, _ => exact t_881
  | 13, _ => exact t_883
  | 14, _ => exact t_885
  | 15, _ => exact t_887
  | 16, _ => exact t_889
  | 17, _ => exact t_891
  | 18, _ => exact t_893
  | 19, _ => exact t_895
  | 20, _ => exact t_897
  | 21, _ => exact t_899
  | 22, _ => exact t_901
  | 23, _ => exact t_903
  | 24, _ => exact t_905
  | 25, _ => exact t_907
  | 26, _ => exact t_909
  | 27, _ => exact t_911
  | 28, _ => exact t_913
  | 29, _ => exact t_915
  | 30, _ => exact t_917
  | 31, _ => exact t_919
  | 32, _ => exact t_921
  | 33, _ => exact t_923
  | 34, _ => exact t_925
  | 35, _ => exact t_927
  | 36, _ => exact t_929
  | 37, _ => exact t_931
  | _ + 38, hk => exact absurd hk (by omega)
theorem ts_AckBook_patience : Cond.selects "AckBook" ({ cls := "AckBook", name := "patience", desc := "(LAckBook$Space;)I" } : MethodName) ({ cls := "AckBook", name := "patience", desc := "(LAckBook$Space;)I" } : MethodName) ∈ zTB := List.mem_filter.mpr ⟨List.mem_append_left _ (List.mem_append_left _ (by decide +kernel)), by decide +kernel⟩
theorem ts_AckBook_probesWithoutCause : Cond.selects "AckBook" ({ cls := "AckBook", name := "probesWithoutCause", desc := "(LAckBook$Space;)Z" } : MethodName) ({ cls := "AckBook", name := "probesWithoutCause", desc := "(LAckBook$Space;)Z" } : MethodName) ∈ zTB := List.mem_filter.mpr ⟨List.mem_append_left _ (List.mem_append_left _ (by decide +kernel)), by decide +kernel⟩
theorem ts_AckBook_probeTime : Cond.selects "AckBook" ({ cls := "AckBook", name := "probeTime", desc := "(LAckBook$Space;)I" } : MethodName) ({ cls := "AckBook", name := "probeTime", desc := "(LAckBook$Space;)I" } : MethodName) ∈ zTB := List.mem_filter.mpr ⟨List.mem_append_left _ (List.mem_append_left _ (by decide +kernel)), by decide +kernel⟩
theorem ts_AckBook_Sent_end : Cond.selects "AckBook$Sent" ({ cls := "AckBook$Sent", name := "end", desc := "(LAckBook$Packet;ILAckBook$Chain;)V" } : MethodName) ({ cls := "AckBook$Sent", name := "end", desc := "(LAckBook$Packet;ILAckBook$Chain;)V" } : MethodName) ∈ zTB := List.mem_filter.mpr ⟨List.mem_append_left _ (List.mem_append_left _ (by decide +kernel)), by decide +kernel⟩
theorem ts_AckBook_Flow_isAfterRecovery : Cond.selects "AckBook$Flow" ({ cls := "AckBook$Flow", name := "isAfterRecovery", desc := "(LAckBook$Packet;)Z" } : MethodName) ({ cls := "AckBook$Flow", name := "isAfterRecovery", desc := "(LAckBook$Packet;)Z" } : MethodName) ∈ zTB := List.mem_filter.mpr ⟨List.mem_append_left _ (List.mem_append_left _ (by decide +kernel)), by decide +kernel⟩
theorem ts_AckBook_Sent_hasAcknowledged : Cond.selects "AckBook$Sent" ({ cls := "AckBook$Sent", name := "hasAcknowledged", desc := "(II)Z" } : MethodName) ({ cls := "AckBook$Sent", name := "hasAcknowledged", desc := "(II)Z" } : MethodName) ∈ zTB := List.mem_filter.mpr ⟨List.mem_append_left _ (List.mem_append_left _ (by decide +kernel)), by decide +kernel⟩
theorem ts_AckBook_earliest : Cond.selects "AckBook" ({ cls := "AckBook", name := "earliest", desc := "(Z)LAckBook$Space;" } : MethodName) ({ cls := "AckBook", name := "earliest", desc := "(Z)LAckBook$Space;" } : MethodName) ∈ zTB := List.mem_filter.mpr ⟨List.mem_append_left _ (List.mem_append_left _ (by decide +kernel)), by decide +kernel⟩
theorem ts_AckBook_lookForLosses : Cond.selects "AckBook" ({ cls := "AckBook", name := "lookForLosses", desc := "(LAckBook$Sent;)V" } : MethodName) ({ cls := "AckBook", name := "lookForLosses", desc := "(LAckBook$Sent;)V" } : MethodName) ∈ zTB := List.mem_filter.mpr ⟨List.mem_append_left _ (List.mem_append_left _ (by decide +kernel)), by decide +kernel⟩
theorem ts_ArrayList_grow : Cond.selects "java/util/ArrayList" ({ cls := "java/util/ArrayList", name := "grow", desc := "(I)[Ljava/lang/Object;" } : MethodName) ({ cls := "java/util/ArrayList", name := "grow", desc := "(I)[Ljava/lang/Object;" } : MethodName) ∈ zTB := List.mem_filter.mpr ⟨List.mem_append_left _ (List.mem_append_left _ (by decide +kernel)), by decide +kernel⟩
theorem ts_ArrayList_grow2 : Cond.selects "java/util/ArrayList" ({ cls := "java/util/ArrayList", name := "grow", desc := "()[Ljava/lang/Object;" } : MethodName) ({ cls := "java/util/ArrayList", name := "grow", desc := "()[Ljava/lang/Object;" } : MethodName) ∈ zTB := List.mem_filter.mpr ⟨List.mem_append_left _ (List.mem_append_left _ (by decide +kernel)), by decide +kernel⟩
theorem ts_ArrayList_add : Cond.selects "java/util/ArrayList" ({ cls := "java/util/ArrayList", name := "add", desc := "(Ljava/lang/Object;[Ljava/lang/Object;I)V" } : MethodName) ({ cls := "java/util/ArrayList", name := "add", desc := "(Ljava/lang/Object;[Ljava/lang/Object;I)V" } : MethodName) ∈ zTB := List.mem_filter.mpr ⟨List.mem_append_left _ (List.mem_append_left _ (by decide +kernel)), by decide +kernel⟩
theorem ts_AckBook_known : Cond.selects "AckBook" ({ cls := "AckBook", name := "known", desc := "(I)LAckBook$Space;" } : MethodName) ({ cls := "AckBook", name := "known", desc := "(I)LAckBook$Space;" } : MethodName) ∈ zTB := List.mem_filter.mpr ⟨List.mem_append_left _ (List.mem_append_left _ (by decide +kernel)), by decide +kernel⟩
theorem ts_AckBook_Flow_grow : Cond.selects "AckBook$Flow" ({ cls := "AckBook$Flow", name := "grow", desc := "(I)V" } : MethodName) ({ cls := "AckBook$Flow", name := "grow", desc := "(I)V" } : MethodName) ∈ zTB := List.mem_filter.mpr ⟨List.mem_append_left _ (List.mem_append_left _ (by decide +kernel)), by decide +kernel⟩
theorem ts_AckBook_settle : Cond.selects "AckBook" ({ cls := "AckBook", name := "settle", desc := "(LAckBook$Space;LAckBook$Packet;I)I" } : MethodName) ({ cls := "AckBook", name := "settle", desc := "(LAckBook$Space;LAckBook$Packet;I)I" } : MethodName) ∈ zTB := List.mem_filter.mpr ⟨List.mem_append_left _ (List.mem_append_left _ (by decide +kernel)), by decide +kernel⟩
theorem ts_AckBook_Arrivals_insert : Cond.selects "AckBook$Arrivals" ({ cls := "AckBook$Arrivals", name := "insert", desc := "(JI)V" } : MethodName) ({ cls := "AckBook$Arrivals", name := "insert", desc := "(JI)V" } : MethodName) ∈ zTB := List.mem_filter.mpr ⟨List.mem_append_left _ (List.mem_append_left _ (by decide +kernel)), by decide +kernel⟩
theorem ts_AckBook_Arrivals_remove : Cond.selects "AckBook$Arrivals" ({ cls := "AckBook$Arrivals", name := "remove", desc := "(I)V" } : MethodName) ({ cls := "AckBook$Arrivals", name := "remove", desc := "(I)V" } : MethodName) ∈ zTB := List.mem_filter.mpr ⟨List.mem_append_left _ (List.mem_append_left _ (by decide +kernel)), by decide +kernel⟩
theorem ts_AckBook_Arrivals_hold : Cond.selects "AckBook$Arrivals" ({ cls := "AckBook$Arrivals", name := "hold", desc := "(ZI)V" } : MethodName) ({ cls := "AckBook$Arrivals", name := "hold", desc := "(ZI)V" } : MethodName) ∈ zTB := List.mem_filter.mpr ⟨List.mem_append_left _ (List.mem_append_left _ (by decide +kernel)), by decide +kernel⟩
theorem ts_AckBook_Arrivals_keep : Cond.selects "AckBook$Arrivals" ({ cls := "AckBook$Arrivals", name := "keep", desc := "(JI)V" } : MethodName) ({ cls := "AckBook$Arrivals", name := "keep", desc := "(JI)V" } : MethodName) ∈ zTB := List.mem_filter.mpr ⟨List.mem_append_left _ (List.mem_append_left _ (by decide +kernel)), by decide +kernel⟩
theorem ts_AckBook_Arrivals_firstNotAbove : Cond.selects "AckBook$Arrivals" ({ cls := "AckBook$Arrivals", name := "firstNotAbove", desc := "(J)I" } : MethodName) ({ cls := "AckBook$Arrivals", name := "firstNotAbove", desc := "(J)I" } : MethodName) ∈ zTB := List.mem_filter.mpr ⟨List.mem_append_left _ (List.mem_append_left _ (by decide +kernel)), by decide +kernel⟩
theorem ts_AckBookModel_isOut : Cond.selects "AckBookModel" ({ cls := "AckBookModel", name := "isOut", desc := "(II)Z" } : MethodName) ({ cls := "AckBookModel", name := "isOut", desc := "(II)Z" } : MethodName) ∈ zTB := List.mem_filter.mpr ⟨List.mem_append_left _ (List.mem_append_left _ (by decide +kernel)), by decide +kernel⟩
theorem ts_AckBookModel_fails : Cond.selects "AckBookModel" ({ cls := "AckBookModel", name := "fails", desc := "(ZI)Z" } : MethodName) ({ cls := "AckBookModel", name := "fails", desc := "(ZI)Z" } : MethodName) ∈ zTB := List.mem_filter.mpr ⟨List.mem_append_left _ (List.mem_append_left _ (by decide +kernel)), by decide +kernel⟩
theorem ts_AckBookModel_flight : Cond.selects "AckBookModel" ({ cls := "AckBookModel", name := "flight", desc := "()I" } : MethodName) ({ cls := "AckBookModel", name := "flight", desc := "()I" } : MethodName) ∈ zTB := List.mem_filter.mpr ⟨List.mem_append_left _ (List.mem_append_left _ (by decide +kernel)), by decide +kernel⟩
theorem ts_AckBookModel_isBehindRecovery : Cond.selects "AckBookModel" ({ cls := "AckBookModel", name := "isBehindRecovery", desc := "(I)Z" } : MethodName) ({ cls := "AckBookModel", name := "isBehindRecovery", desc := "(I)Z" } : MethodName) ∈ zTB := List.mem_filter.mpr ⟨List.mem_append_left _ (List.mem_append_left _ (by decide +kernel)), by decide +kernel⟩
theorem ts_AckBookModel_persists : Cond.selects "AckBookModel" ({ cls := "AckBookModel", name := "persists", desc := "(II)V" } : MethodName) ({ cls := "AckBookModel", name := "persists", desc := "(II)V" } : MethodName) ∈ zTB := List.mem_filter.mpr ⟨List.mem_append_left _ (List.mem_append_left _ (by decide +kernel)), by decide +kernel⟩
theorem ts_AckBookModel_find : Cond.selects "AckBookModel" ({ cls := "AckBookModel", name := "find", desc := "(III)V" } : MethodName) ({ cls := "AckBookModel", name := "find", desc := "(III)V" } : MethodName) ∈ zTB := List.mem_filter.mpr ⟨List.mem_append_left _ (List.mem_append_left _ (by decide +kernel)), by decide +kernel⟩
theorem ts_AckBookModel_limit : Cond.selects "AckBookModel" ({ cls := "AckBookModel", name := "limit", desc := "()I" } : MethodName) ({ cls := "AckBookModel", name := "limit", desc := "()I" } : MethodName) ∈ zTB := List.mem_filter.mpr ⟨List.mem_append_left _ (List.mem_append_left _ (by decide +kernel)), by decide +kernel⟩
theorem ts_AckBookModel_sample : Cond.selects "AckBookModel" ({ cls := "AckBookModel", name := "sample", desc := "(II)V" } : MethodName) ({ cls := "AckBookModel", name := "sample", desc := "(II)V" } : MethodName) ∈ zTB := List.mem_filter.mpr ⟨List.mem_append_left _ (List.mem_append_left _ (by decide +kernel)), by decide +kernel⟩
theorem ts_AckBookModel_isNew : Cond.selects "AckBookModel" ({ cls := "AckBookModel", name := "isNew", desc := "(II)Z" } : MethodName) ({ cls := "AckBookModel", name := "isNew", desc := "(II)Z" } : MethodName) ∈ zTB := List.mem_filter.mpr ⟨List.mem_append_left _ (List.mem_append_left _ (by decide +kernel)), by decide +kernel⟩
theorem ts_AckBookModel_losses : Cond.selects "AckBookModel" ({ cls := "AckBookModel", name := "losses", desc := "(I)V" } : MethodName) ({ cls := "AckBookModel", name := "losses", desc := "(I)V" } : MethodName) ∈ zTB := List.mem_filter.mpr ⟨List.mem_append_left _ (List.mem_append_left _ (by decide +kernel)), by decide +kernel⟩
theorem ts_AckBookModel_grow : Cond.selects "AckBookModel" ({ cls := "AckBookModel", name := "grow", desc := "(I)V" } : MethodName) ({ cls := "AckBookModel", name := "grow", desc := "(I)V" } : MethodName) ∈ zTB := List.mem_filter.mpr ⟨List.mem_append_left _ (List.mem_append_left _ (by decide +kernel)), by decide +kernel⟩
theorem ts_AckBookModel_takes : Cond.selects "AckBookModel" ({ cls := "AckBookModel", name := "takes", desc := "(II)I" } : MethodName) ({ cls := "AckBookModel", name := "takes", desc := "(II)I" } : MethodName) ∈ zTB := List.mem_filter.mpr ⟨List.mem_append_left _ (List.mem_append_left _ (by decide +kernel)), by decide +kernel⟩
theorem ts_AckBookModel_firstSpace : Cond.selects "AckBookModel" ({ cls := "AckBookModel", name := "firstSpace", desc := "()I" } : MethodName) ({ cls := "AckBookModel", name := "firstSpace", desc := "()I" } : MethodName) ∈ zTB := List.mem_filter.mpr ⟨List.mem_append_left _ (List.mem_append_left _ (by decide +kernel)), by decide +kernel⟩
theorem ts_AckBookModel_patience : Cond.selects "AckBookModel" ({ cls := "AckBookModel", name := "patience", desc := "(I)I" } : MethodName) ({ cls := "AckBookModel", name := "patience", desc := "(I)I" } : MethodName) ∈ zTB := List.mem_filter.mpr ⟨List.mem_append_left _ (List.mem_append_left _ (by decide +kernel)), by decide +kernel⟩
theorem ts_AckBookModel_outs : Cond.selects "AckBookModel" ({ cls := "AckBookModel", name := "outs", desc := "(IZ)I" } : MethodName) ({ cls := "AckBookModel", name := "outs", desc := "(IZ)I" } : MethodName) ∈ zTB := List.mem_filter.mpr ⟨List.mem_append_left _ (List.mem_append_left _ (by decide +kernel)), by decide +kernel⟩
theorem ts_AckBookModel_probeTime : Cond.selects "AckBookModel" ({ cls := "AckBookModel", name := "probeTime", desc := "(I)I" } : MethodName) ({ cls := "AckBookModel", name := "probeTime", desc := "(I)I" } : MethodName) ∈ zTB := List.mem_filter.mpr ⟨List.mem_append_left _ (List.mem_append_left _ (by decide +kernel)), by decide +kernel⟩
theorem ts_AckBookModel_takeOut : Cond.selects "AckBookModel" ({ cls := "AckBookModel", name := "takeOut", desc := "(II)V" } : MethodName) ({ cls := "AckBookModel", name := "takeOut", desc := "(II)V" } : MethodName) ∈ zTB := List.mem_filter.mpr ⟨List.mem_append_left _ (List.mem_append_left _ (by decide +kernel)), by decide +kernel⟩
theorem ts_AckBookModel_comeIn : Cond.selects "AckBookModel" ({ cls := "AckBookModel", name := "comeIn", desc := "(IJ)V" } : MethodName) ({ cls := "AckBookModel", name := "comeIn", desc := "(IJ)V" } : MethodName) ∈ zTB := List.mem_filter.mpr ⟨List.mem_append_left _ (List.mem_append_left _ (by decide +kernel)), by decide +kernel⟩
theorem ts_AckBookModel_isOld : Cond.selects "AckBookModel" ({ cls := "AckBookModel", name := "isOld", desc := "(IJ)Z" } : MethodName) ({ cls := "AckBookModel", name := "isOld", desc := "(IJ)Z" } : MethodName) ∈ zTB := List.mem_filter.mpr ⟨List.mem_append_left _ (List.mem_append_left _ (by decide +kernel)), by decide +kernel⟩
theorem ts_AckBookModel_greatest : Cond.selects "AckBookModel" ({ cls := "AckBookModel", name := "greatest", desc := "(I)J" } : MethodName) ({ cls := "AckBookModel", name := "greatest", desc := "(I)J" } : MethodName) ∈ zTB := List.mem_filter.mpr ⟨List.mem_append_left _ (List.mem_append_left _ (by decide +kernel)), by decide +kernel⟩
theorem tn_0 : Cond.not (.castable "java/lang/IllegalStateException" "java/lang/IllegalArgumentException") ∈ zTB := List.mem_filter.mpr ⟨List.mem_append_right _ (by decide +kernel), by decide +kernel⟩
theorem tn_1 : Cond.not (.castable "java/util/NoSuchElementException" "java/lang/IllegalArgumentException") ∈ zTB := List.mem_filter.mpr ⟨List.mem_append_right _ (by decide +kernel), by decide +kernel⟩
theorem at_AckBook_47 : ∀ x ∈ Bundle.ownAtoms "AckBook" 47 "java/lang/IllegalArgumentException" ["java/lang/RuntimeException", "java/lang/Exception"], x ∈ zTB ∨ x = .isRef (.static Bundle.tN "UNASSIGNED_STACK" Bundle.steD) ∨ x = .isRef (.static Bundle.tN "SUPPRESSED_SENTINEL" Bundle.listD) ∨ x = .laysStatic Bundle.tN "UNASSIGNED_STACK" Bundle.steD ∨ x = .laysStatic Bundle.tN "SUPPRESSED_SENTINEL" Bundle.listD := by decide +kernel
theorem at_AckBook_70 : ∀ x ∈ Bundle.ownAtoms "AckBook" 70 "java/lang/IllegalStateException" ["java/lang/RuntimeException", "java/lang/Exception"], x ∈ zTB ∨ x = .isRef (.static Bundle.tN "UNASSIGNED_STACK" Bundle.steD) ∨ x = .isRef (.static Bundle.tN "SUPPRESSED_SENTINEL" Bundle.listD) ∨ x = .laysStatic Bundle.tN "UNASSIGNED_STACK" Bundle.steD ∨ x = .laysStatic Bundle.tN "SUPPRESSED_SENTINEL" Bundle.listD := by decide +kernel
theorem at_AckBook_211 : ∀ x ∈ z_xAt "AckBook" 211 "java/util/NoSuchElementException" 13 prog_29_method_4_code "java/lang/RuntimeException" ["java/lang/Exception"], x ∈ zTB ∨ x = .isRef (.static Bundle.tN "UNASSIGNED_STACK" Bundle.steD) ∨ x = .isRef (.static Bundle.tN "SUPPRESSED_SENTINEL" Bundle.listD) ∨ x = .laysStatic Bundle.tN "UNASSIGNED_STACK" Bundle.steD ∨ x = .laysStatic Bundle.tN "SUPPRESSED_SENTINEL" Bundle.listD := by decide +kernel

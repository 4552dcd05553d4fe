def f_AckBookModel_came (F X : Nat) (a0 : Option Nat) (pI1 : Int32) (pJ2 : Int64) (pI3 : Int32) (w : zW) : zR :=
  z_cI (f_AckBookModel_noSpace F X pI1 w) fun v2 w =>
  if v2 = 0 then (
    if (lg_cmp pJ2 (0 : Int64)) < 0 then (
      z_this w 10 a0 <|
      z_cI (f_AckBookModel_fails F X a0 (1 : Int32) (1 : Int32) w) fun v4 w =>
      if v4 = 0 then (
        z_getR w 10 11 a0 fun r5 =>
        z_ldI w .boolean r5 pI1 fun v6 =>
        z_this w 10 a0 <|
        z_cI (f_AckBookModel_fails F X a0 v6 (2 : Int32) w) fun v8 w =>
        if v8 = 0 then (
          z_this w 10 a0 <|
          z_cI (f_AckBookModel_isOld F X a0 pI1 pJ2 w) fun v10 w =>
          if v10 = 0 then (
            z_this w 10 a0 <|
            z_cL (f_AckBookModel_greatest F X a0 pI1 w) fun v12 w =>
            if (lg_cmp pJ2 v12) ≤ 0 then (
              z_this w 10 a0 <|
              z_cV (f_AckBookModel_comeIn F X a0 pI1 pJ2 w) fun w =>
              if pI3 = 0 then (
                some (.inl (some (.int (1 : Int32))), w))
              else (
                z_getR w 10 35 a0 fun r14 =>
                z_ldI w .int r14 pI1 fun v15 =>
                if v15 = 0 then (
                  z_getR w 10 36 a0 fun r16 =>
                  z_getI w 10 1 a0 fun v17 =>
                  z_stI w r16 pI1 v17 fun w =>
                  z_getR w 10 35 a0 fun r18 =>
                  z_ldI w .int r18 pI1 fun v19 =>
                  z_stI w r18 pI1 (v19 + (1 : Int32)) fun w =>
                  z_getR w 10 37 a0 fun r20 =>
                  z_getR w 10 37 a0 fun r21 =>
                  z_ldI w .boolean r21 pI1 fun v22 =>
                  if v22 = 0 then (
                    if (lg_cmp pJ2 (v12 + (1 : Int64))) = 0 then (
                      z_stZ w r20 pI1 (0 : Int32) fun w =>
                      some (.inl (some (.int (1 : Int32))), w))
                    else (
                      z_stZ w r20 pI1 (1 : Int32) fun w =>
                      some (.inl (some (.int (1 : Int32))), w)))
                  else (
                    z_stZ w r20 pI1 (1 : Int32) fun w =>
                    some (.inl (some (.int (1 : Int32))), w)))
                else (
                  z_getR w 10 35 a0 fun r23 =>
                  z_ldI w .int r23 pI1 fun v24 =>
                  z_stI w r23 pI1 (v24 + (1 : Int32)) fun w =>
                  z_getR w 10 37 a0 fun r25 =>
                  z_getR w 10 37 a0 fun r26 =>
                  z_ldI w .boolean r26 pI1 fun v27 =>
                  if v27 = 0 then (
                    if (lg_cmp pJ2 (v12 + (1 : Int64))) = 0 then (
                      z_stZ w r25 pI1 (0 : Int32) fun w =>
                      some (.inl (some (.int (1 : Int32))), w))
                    else (
                      z_stZ w r25 pI1 (1 : Int32) fun w =>
                      some (.inl (some (.int (1 : Int32))), w)))
                  else (
                    z_stZ w r25 pI1 (1 : Int32) fun w =>
                    some (.inl (some (.int (1 : Int32))), w)))))
            else (
              z_getR w 10 34 a0 fun r28 =>
              z_getI w 10 1 a0 fun v29 =>
              z_stI w r28 pI1 v29 fun w =>
              z_this w 10 a0 <|
              z_cV (f_AckBookModel_comeIn F X a0 pI1 pJ2 w) fun w =>
              if pI3 = 0 then (
                some (.inl (some (.int (1 : Int32))), w))
              else (
                z_getR w 10 35 a0 fun r31 =>
                z_ldI w .int r31 pI1 fun v32 =>
                if v32 = 0 then (
                  z_getR w 10 36 a0 fun r33 =>
                  z_getI w 10 1 a0 fun v34 =>
                  z_stI w r33 pI1 v34 fun w =>
                  z_getR w 10 35 a0 fun r35 =>
                  z_ldI w .int r35 pI1 fun v36 =>
                  z_stI w r35 pI1 (v36 + (1 : Int32)) fun w =>
                  z_getR w 10 37 a0 fun r37 =>
                  z_getR w 10 37 a0 fun r38 =>
                  z_ldI w .boolean r38 pI1 fun v39 =>
                  if v39 = 0 then (
                    if (lg_cmp pJ2 (v12 + (1 : Int64))) = 0 then (
                      z_stZ w r37 pI1 (0 : Int32) fun w =>
                      some (.inl (some (.int (1 : Int32))), w))
                    else (
                      z_stZ w r37 pI1 (1 : Int32) fun w =>
                      some (.inl (some (.int (1 : Int32))), w)))
                  else (
                    z_stZ w r37 pI1 (1 : Int32) fun w =>
                    some (.inl (some (.int (1 : Int32))), w)))
                else (
                  z_getR w 10 35 a0 fun r40 =>
                  z_ldI w .int r40 pI1 fun v41 =>
                  z_stI w r40 pI1 (v41 + (1 : Int32)) fun w =>
                  z_getR w 10 37 a0 fun r42 =>
                  z_getR w 10 37 a0 fun r43 =>
                  z_ldI w .boolean r43 pI1 fun v44 =>
                  if v44 = 0 then (
                    if (lg_cmp pJ2 (v12 + (1 : Int64))) = 0 then (
                      z_stZ w r42 pI1 (0 : Int32) fun w =>
                      some (.inl (some (.int (1 : Int32))), w))
                    else (
                      z_stZ w r42 pI1 (1 : Int32) fun w =>
                      some (.inl (some (.int (1 : Int32))), w)))
                  else (
                    z_stZ w r42 pI1 (1 : Int32) fun w =>
                    some (.inl (some (.int (1 : Int32))), w))))))
          else (
            some (.inl (some (.int (0 : Int32))), w)))
        else (
          some (.inl (some (.int (0 : Int32))), w)))
      else (
        some (.inl (some (.int (0 : Int32))), w)))
    else (
      if (lg_cmp pJ2 (4611686018427387903 : Int64)) ≤ 0 then (
        z_this w 10 a0 <|
        z_cI (f_AckBookModel_fails F X a0 (0 : Int32) (1 : Int32) w) fun v46 w =>
        if v46 = 0 then (
          z_getR w 10 11 a0 fun r47 =>
          z_ldI w .boolean r47 pI1 fun v48 =>
          z_this w 10 a0 <|
          z_cI (f_AckBookModel_fails F X a0 v48 (2 : Int32) w) fun v50 w =>
          if v50 = 0 then (
            z_this w 10 a0 <|
            z_cI (f_AckBookModel_isOld F X a0 pI1 pJ2 w) fun v52 w =>
            if v52 = 0 then (
              z_this w 10 a0 <|
              z_cL (f_AckBookModel_greatest F X a0 pI1 w) fun v54 w =>
              if (lg_cmp pJ2 v54) ≤ 0 then (
                z_this w 10 a0 <|
                z_cV (f_AckBookModel_comeIn F X a0 pI1 pJ2 w) fun w =>
                if pI3 = 0 then (
                  some (.inl (some (.int (1 : Int32))), w))
                else (
                  z_getR w 10 35 a0 fun r56 =>
                  z_ldI w .int r56 pI1 fun v57 =>
                  if v57 = 0 then (
                    z_getR w 10 36 a0 fun r58 =>
                    z_getI w 10 1 a0 fun v59 =>
                    z_stI w r58 pI1 v59 fun w =>
                    z_getR w 10 35 a0 fun r60 =>
                    z_ldI w .int r60 pI1 fun v61 =>
                    z_stI w r60 pI1 (v61 + (1 : Int32)) fun w =>
                    z_getR w 10 37 a0 fun r62 =>
                    z_getR w 10 37 a0 fun r63 =>
                    z_ldI w .boolean r63 pI1 fun v64 =>
                    if v64 = 0 then (
                      if (lg_cmp pJ2 (v54 + (1 : Int64))) = 0 then (
                        z_stZ w r62 pI1 (0 : Int32) fun w =>
                        some (.inl (some (.int (1 : Int32))), w))
                      else (
                        z_stZ w r62 pI1 (1 : Int32) fun w =>
                        some (.inl (some (.int (1 : Int32))), w)))
                    else (
                      z_stZ w r62 pI1 (1 : Int32) fun w =>
                      some (.inl (some (.int (1 : Int32))), w)))
                  else (
                    z_getR w 10 35 a0 fun r65 =>
                    z_ldI w .int r65 pI1 fun v66 =>
                    z_stI w r65 pI1 (v66 + (1 : Int32)) fun w =>
                    z_getR w 10 37 a0 fun r67 =>
                    z_getR w 10 37 a0 fun r68 =>
                    z_ldI w .boolean r68 pI1 fun v69 =>
                    if v69 = 0 then (
                      if (lg_cmp pJ2 (v54 + (1 : Int64))) = 0 then (
                        z_stZ w r67 pI1 (0 : Int32) fun w =>
                        some (.inl (some (.int (1 : Int32))), w))
                      else (
                        z_stZ w r67 pI1 (1 : Int32) fun w =>
                        some (.inl (some (.int (1 : Int32))), w)))
                    else (
                      z_stZ w r67 pI1 (1 : Int32) fun w =>
                      some (.inl (some (.int (1 : Int32))), w)))))
              else (
                z_getR w 10 34 a0 fun r70 =>
                z_getI w 10 1 a0 fun v71 =>
                z_stI w r70 pI1 v71 fun w =>
                z_this w 10 a0 <|
                z_cV (f_AckBookModel_comeIn F X a0 pI1 pJ2 w) fun w =>
                if pI3 = 0 then (
                  some (.inl (some (.int (1 : Int32))), w))
                else (
                  z_getR w 10 35 a0 fun r73 =>
                  z_ldI w .int r73 pI1 fun v74 =>
                  if v74 = 0 then (
                    z_getR w 10 36 a0 fun r75 =>
                    z_getI w 10 1 a0 fun v76 =>
                    z_stI w r75 pI1 v76 fun w =>
                    z_getR w 10 35 a0 fun r77 =>
                    z_ldI w .int r77 pI1 fun v78 =>
                    z_stI w r77 pI1 (v78 + (1 : Int32)) fun w =>
                    z_getR w 10 37 a0 fun r79 =>
                    z_getR w 10 37 a0 fun r80 =>
                    z_ldI w .boolean r80 pI1 fun v81 =>
                    if v81 = 0 then (
                      if (lg_cmp pJ2 (v54 + (1 : Int64))) = 0 then (
                        z_stZ w r79 pI1 (0 : Int32) fun w =>
                        some (.inl (some (.int (1 : Int32))), w))
                      else (
                        z_stZ w r79 pI1 (1 : Int32) fun w =>
                        some (.inl (some (.int (1 : Int32))), w)))
                    else (
                      z_stZ w r79 pI1 (1 : Int32) fun w =>
                      some (.inl (some (.int (1 : Int32))), w)))
                  else (
                    z_getR w 10 35 a0 fun r82 =>
                    z_ldI w .int r82 pI1 fun v83 =>
                    z_stI w r82 pI1 (v83 + (1 : Int32)) fun w =>
                    z_getR w 10 37 a0 fun r84 =>
                    z_getR w 10 37 a0 fun r85 =>
                    z_ldI w .boolean r85 pI1 fun v86 =>
                    if v86 = 0 then (
                      if (lg_cmp pJ2 (v54 + (1 : Int64))) = 0 then (
                        z_stZ w r84 pI1 (0 : Int32) fun w =>
                        some (.inl (some (.int (1 : Int32))), w))
                      else (
                        z_stZ w r84 pI1 (1 : Int32) fun w =>
                        some (.inl (some (.int (1 : Int32))), w)))
                    else (
                      z_stZ w r84 pI1 (1 : Int32) fun w =>
                      some (.inl (some (.int (1 : Int32))), w))))))
            else (
              some (.inl (some (.int (0 : Int32))), w)))
          else (
            some (.inl (some (.int (0 : Int32))), w)))
        else (
          some (.inl (some (.int (0 : Int32))), w)))
      else (
        z_this w 10 a0 <|
        z_cI (f_AckBookModel_fails F X a0 (1 : Int32) (1 : Int32) w) fun v88 w =>
        if v88 = 0 then (
          z_getR w 10 11 a0 fun r89 =>
          z_ldI w .boolean r89 pI1 fun v90 =>
          z_this w 10 a0 <|
          z_cI (f_AckBookModel_fails F X a0 v90 (2 : Int32) w) fun v92 w =>
          if v92 = 0 then (
            z_this w 10 a0 <|
            z_cI (f_AckBookModel_isOld F X a0 pI1 pJ2 w) fun v94 w =>
            if v94 = 0 then (
              z_this w 10 a0 <|
              z_cL (f_AckBookModel_greatest F X a0 pI1 w) fun v96 w =>
              if (lg_cmp pJ2 v96) ≤ 0 then (
                z_this w 10 a0 <|
                z_cV (f_AckBookModel_comeIn F X a0 pI1 pJ2 w) fun w =>
                if pI3 = 0 then (
                  some (.inl (some (.int (1 : Int32))), w))
                else (
                  z_getR w 10 35 a0 fun r98 =>
                  z_ldI w .int r98 pI1 fun v99 =>
                  if v99 = 0 then (
                    z_getR w 10 36 a0 fun r100 =>
                    z_getI w 10 1 a0 fun v101 =>
                    z_stI w r100 pI1 v101 fun w =>
                    z_getR w 10 35 a0 fun r102 =>
                    z_ldI w .int r102 pI1 fun v103 =>
                    z_stI w r102 pI1 (v103 + (1 : Int32)) fun w =>
                    z_getR w 10 37 a0 fun r104 =>
                    z_getR w 10 37 a0 fun r105 =>
                    z_ldI w .boolean r105 pI1 fun v106 =>
                    if v106 = 0 then (
                      if (lg_cmp pJ2 (v96 + (1 : Int64))) = 0 then (
                        z_stZ w r104 pI1 (0 : Int32) fun w =>
                        some (.inl (some (.int (1 : Int32))), w))
                      else (
                        z_stZ w r104 pI1 (1 : Int32) fun w =>
                        some (.inl (some (.int (1 : Int32))), w)))
                    else (
                      z_stZ w r104 pI1 (1 : Int32) fun w =>
                      some (.inl (some (.int (1 : Int32))), w)))
                  else (
                    z_getR w 10 35 a0 fun r107 =>
                    z_ldI w .int r107 pI1 fun v108 =>
                    z_stI w r107 pI1 (v108 + (1 : Int32)) fun w =>
                    z_getR w 10 37 a0 fun r109 =>
                    z_getR w 10 37 a0 fun r110 =>
                    z_ldI w .boolean r110 pI1 fun v111 =>
                    if v111 = 0 then (
                      if (lg_cmp pJ2 (v96 + (1 : Int64))) = 0 then (
                        z_stZ w r109 pI1 (0 : Int32) fun w =>
                        some (.inl (some (.int (1 : Int32))), w))
                      else (
                        z_stZ w r109 pI1 (1 : Int32) fun w =>
                        some (.inl (some (.int (1 : Int32))), w)))
                    else (
                      z_stZ w r109 pI1 (1 : Int32) fun w =>
                      some (.inl (some (.int (1 : Int32))), w)))))
              else (
                z_getR w 10 34 a0 fun r112 =>
                z_getI w 10 1 a0 fun v113 =>
                z_stI w r112 pI1 v113 fun w =>
                z_this w 10 a0 <|
                z_cV (f_AckBookModel_comeIn F X a0 pI1 pJ2 w) fun w =>
                if pI3 = 0 then (
                  some (.inl (some (.int (1 : Int32))), w))
                else (
                  z_getR w 10 35 a0 fun r115 =>
                  z_ldI w .int r115 pI1 fun v116 =>
                  if v116 = 0 then (
                    z_getR w 10 36 a0 fun r117 =>
                    z_getI w 10 1 a0 fun v118 =>
                    z_stI w r117 pI1 v118 fun w =>
                    z_getR w 10 35 a0 fun r119 =>
                    z_ldI w .int r119 pI1 fun v120 =>
                    z_stI w r119 pI1 (v120 + (1 : Int32)) fun w =>
                    z_getR w 10 37 a0 fun r121 =>
                    z_getR w 10 37 a0 fun r122 =>
                    z_ldI w .boolean r122 pI1 fun v123 =>
                    if v123 = 0 then (
                      if (lg_cmp pJ2 (v96 + (1 : Int64))) = 0 then (
                        z_stZ w r121 pI1 (0 : Int32) fun w =>
                        some (.inl (some (.int (1 : Int32))), w))
                      else (
                        z_stZ w r121 pI1 (1 : Int32) fun w =>
                        some (.inl (some (.int (1 : Int32))), w)))
                    else (
                      z_stZ w r121 pI1 (1 : Int32) fun w =>
                      some (.inl (some (.int (1 : Int32))), w)))
                  else (
                    z_getR w 10 35 a0 fun r124 =>
                    z_ldI w .int r124 pI1 fun v125 =>
                    z_stI w r124 pI1 (v125 + (1 : Int32)) fun w =>
                    z_getR w 10 37 a0 fun r126 =>
                    z_getR w 10 37 a0 fun r127 =>
                    z_ldI w .boolean r127 pI1 fun v128 =>
                    if v128 = 0 then (
                      if (lg_cmp pJ2 (v96 + (1 : Int64))) = 0 then (
                        z_stZ w r126 pI1 (0 : Int32) fun w =>
                        some (.inl (some (.int (1 : Int32))), w))
                      else (
                        z_stZ w r126 pI1 (1 : Int32) fun w =>
                        some (.inl (some (.int (1 : Int32))), w)))
                    else (
                      z_stZ w r126 pI1 (1 : Int32) fun w =>
                      some (.inl (some (.int (1 : Int32))), w))))))
            else (
              some (.inl (some (.int (0 : Int32))), w)))
          else (
            some (.inl (some (.int (0 : Int32))), w)))
        else (
          some (.inl (some (.int (0 : Int32))), w)))))
  else (
    z_this w 10 a0 <|
    z_cI (f_AckBookModel_fails F X a0 (1 : Int32) (1 : Int32) w) fun v130 w =>
    if v130 = 0 then (
      z_getR w 10 11 a0 fun r131 =>
      z_ldI w .boolean r131 pI1 fun v132 =>
      z_this w 10 a0 <|
      z_cI (f_AckBookModel_fails F X a0 v132 (2 : Int32) w) fun v134 w =>
      if v134 = 0 then (
        z_this w 10 a0 <|
        z_cI (f_AckBookModel_isOld F X a0 pI1 pJ2 w) fun v136 w =>
        if v136 = 0 then (
          z_this w 10 a0 <|
          z_cL (f_AckBookModel_greatest F X a0 pI1 w) fun v138 w =>
          if (lg_cmp pJ2 v138) ≤ 0 then (
            z_this w 10 a0 <|
            z_cV (f_AckBookModel_comeIn F X a0 pI1 pJ2 w) fun w =>
            if pI3 = 0 then (
              some (.inl (some (.int (1 : Int32))), w))
            else (
              z_getR w 10 35 a0 fun r140 =>
              z_ldI w .int r140 pI1 fun v141 =>
              if v141 = 0 then (
                z_getR w 10 36 a0 fun r142 =>
                z_getI w 10 1 a0 fun v143 =>
                z_stI w r142 pI1 v143 fun w =>
                z_getR w 10 35 a0 fun r144 =>
                z_ldI w .int r144 pI1 fun v145 =>
                z_stI w r144 pI1 (v145 + (1 : Int32)) fun w =>
                z_getR w 10 37 a0 fun r146 =>
                z_getR w 10 37 a0 fun r147 =>
                z_ldI w .boolean r147 pI1 fun v148 =>
                if v148 = 0 then (
                  if (lg_cmp pJ2 (v138 + (1 : Int64))) = 0 then (
                    z_stZ w r146 pI1 (0 : Int32) fun w =>
                    some (.inl (some (.int (1 : Int32))), w))
                  else (
                    z_stZ w r146 pI1 (1 : Int32) fun w =>
                    some (.inl (some (.int (1 : Int32))), w)))
                else (
                  z_stZ w r146 pI1 (1 : Int32) fun w =>
                  some (.inl (some (.int (1 : Int32))), w)))
              else (
                z_getR w 10 35 a0 fun r149 =>
                z_ldI w .int r149 pI1 fun v150 =>
                z_stI w r149 pI1 (v150 + (1 : Int32)) fun w =>
                z_getR w 10 37 a0 fun r151 =>
                z_getR w 10 37 a0 fun r152 =>
                z_ldI w .boolean r152 pI1 fun v153 =>
                if v153 = 0 then (
                  if (lg_cmp pJ2 (v138 + (1 : Int64))) = 0 then (
                    z_stZ w r151 pI1 (0 : Int32) fun w =>
                    some (.inl (some (.int (1 : Int32))), w))
                  else (
                    z_stZ w r151 pI1 (1 : Int32) fun w =>
                    some (.inl (some (.int (1 : Int32))), w)))
                else (
                  z_stZ w r151 pI1 (1 : Int32) fun w =>
                  some (.inl (some (.int (1 : Int32))), w)))))
          else (
            z_getR w 10 34 a0 fun r154 =>
            z_getI w 10 1 a0 fun v155 =>
            z_stI w r154 pI1 v155 fun w =>
            z_this w 10 a0 <|
            z_cV (f_AckBookModel_comeIn F X a0 pI1 pJ2 w) fun w =>
            if pI3 = 0 then (
              some (.inl (some (.int (1 : Int32))), w))
            else (
              z_getR w 10 35 a0 fun r157 =>
              z_ldI w .int r157 pI1 fun v158 =>
              if v158 = 0 then (
                z_getR w 10 36 a0 fun r159 =>
                z_getI w 10 1 a0 fun v160 =>
                z_stI w r159 pI1 v160 fun w =>
                z_getR w 10 35 a0 fun r161 =>
                z_ldI w .int r161 pI1 fun v162 =>
                z_stI w r161 pI1 (v162 + (1 : Int32)) fun w =>
                z_getR w 10 37 a0 fun r163 =>
                z_getR w 10 37 a0 fun r164 =>
                z_ldI w .boolean r164 pI1 fun v165 =>
                if v165 = 0 then (
                  if (lg_cmp pJ2 (v138 + (1 : Int64))) = 0 then (
                    z_stZ w r163 pI1 (0 : Int32) fun w =>
                    some (.inl (some (.int (1 : Int32))), w))
                  else (
                    z_stZ w r163 pI1 (1 : Int32) fun w =>
                    some (.inl (some (.int (1 : Int32))), w)))
                else (
                  z_stZ w r163 pI1 (1 : Int32) fun w =>
                  some (.inl (some (.int (1 : Int32))), w)))
              else (
                z_getR w 10 35 a0 fun r166 =>
                z_ldI w .int r166 pI1 fun v167 =>
                z_stI w r166 pI1 (v167 + (1 : Int32)) fun w =>
                z_getR w 10 37 a0 fun r168 =>
                z_getR w 10 37 a0 fun r169 =>
                z_ldI w .boolean r169 pI1 fun v170 =>
                if v170 = 0 then (
                  if (lg_cmp pJ2 (v138 + (1 : Int64))) = 0 then (
                    z_stZ w r168 pI1 (0 : Int32) fun w =>
                    some (.inl (some (.int (1 : Int32))), w))
                  else (
                    z_stZ w r168 pI1 (1 : Int32) fun w =>
                    some (.inl (some (.int (1 : Int32))), w)))
                else (
                  z_stZ w r168 pI1 (1 : Int32) fun w =>
                  some (.inl (some (.int (1 : Int32))), w))))))
        else (
          some (.inl (some (.int (0 : Int32))), w)))
      else (
        some (.inl (some (.int (0 : Int32))), w)))
    else (
      some (.inl (some (.int (0 : Int32))), w)))
set_option maxHeartbeats 4000000 in
set_option maxRecDepth 100000 in
theorem k_AckBookModel_came {b0 : Nat} {H0 : Heap} {D : va_G} {vu vs : Value} {X : Nat} {l : Launch} (hT : z_TB (zGG b0 H0 D vu vs X)) (hfl : l.flags = pinnedFlags ++ [noTraceFlag]) (hE : vu.isRef = true ∧ vs.isRef = true) {a0 : Option Nat} {pI1 : Int32} {pJ2 : Int64} {pI3 : Int32} (F : Nat) {w : zW} (res : zO × zW) (h : f_AckBookModel_came F X a0 pI1 pJ2 pI3 w = some res) : z_Ct (zGG b0 H0 D vu vs X) l y_AckBookModel_came (.code y_AckBookModel_came c_AckBookModel_came 7 (some FieldType.boolean)) 2 47 [va_rf a0, .int pI1, .long pJ2, .int pI3] w res := by
  refine z_ct hT hfl (by decide) (by simp only [z_sl_i, z_sl_j, z_sl_r, z_sl_n]; decide) ?_
  intro p e R s m args below meth c hC hr hRc hRs hRt hnm hFr H ls hZ hl
  simp only [z_la_i, z_la_j, z_la_r, z_la_n] at hl
  have hl : lv_has ls 7 [(0, va_rf a0), (1, .int pI1), (2, .long pJ2), (4, .int pI3)] := hl
  unfold f_AckBookModel_came at h
  refine x_aload_n hC d_AckBookModel_came_0 rfl (lv_at hl 0 rfl) ?_
  refine lv_iload_n hC.1 hC.2.1 d_AckBookModel_came_1 rfl (lv_at hl 1 rfl) ?_
  obtain ⟨w1_, o1_, hF_, ha_⟩ := z_cI_spec h
  refine x_goes hC hRc hRs hFr ha_ (z_goS (As := [.int pI1]) hC hZ (k_AckBookModel_noSpace hT hfl hE _ _ hF_) t_944 t_945 t_12 t_946 ⟨by decide, by decide, (by decide +kernel : (parseMethodDescriptor y_AckBookModel_noSpace.desc).map (fun d => d.parameters.length) = some 1)⟩ (by rw [hRt.1]; decide) (by rw [hRt.2]; decide) hl.1 rfl (by first | exact Nat.le_of_ble_eq_true rfl | simp [z_rfc, z_ci, z_cj]) d_AckBookModel_came_2) (fun v_ hv H locs cells slots hZ => ?_)
  obtain ⟨v2, rfl, h⟩ := hv
  generalize w1_ = w at h hZ
  refine lv_if_ne (tgt := 22) hC.1 hC.2.1 d_AckBookModel_came_5 (by decide) (fun hc => ?_) (fun hc => ?_)
  · have h := z_ifn hc h
    refine lv_iconst (v := (1 : Int32)) hC.1 hC.2.1 d_AckBookModel_came_22 (by decide) ?_
    refine lv_goto (tgt := 27) hC.1 hC.2.1 d_AckBookModel_came_23 (by decide) ?_
    refine lv_iconst (v := (1 : Int32)) hC.1 hC.2.1 d_AckBookModel_came_27 (by decide) ?_
    obtain ⟨a_, fs_, eo_, h⟩ := z_this_spec h
    obtain ⟨w1_, o1_, hF_, ha_⟩ := z_cI_spec h
    refine x_goes hC hRc hRs hFr ha_ (z_goV (As := [.int (1 : Int32), .int (1 : Int32)]) hC hZ zc10 eo_ (k_AckBookModel_fails hT hfl hE _ _ hF_) t_947 t_949 ts_AckBookModel_fails t_12 t_950 ⟨by decide, by decide, (by decide +kernel : (parseMethodDescriptor y_AckBookModel_fails.desc).map (fun d => d.parameters.length) = some 2)⟩ (by rw [hRt.1]; decide) (by rw [hRt.2]; decide) hl.1 rfl (by first | exact Nat.le_of_ble_eq_true rfl | simp [z_rfc, z_ci, z_cj]) d_AckBookModel_came_28) (fun v_ hv H locs cells slots hZ => ?_)
    obtain ⟨v130, rfl, h⟩ := hv
    generalize w1_ = w at h hZ
    refine lv_if_ne (tgt := 57) hC.1 hC.2.1 d_AckBookModel_came_31 (by decide) (fun hc => ?_) (fun hc => ?_)
    · have h := z_ifn hc h
      refine lv_iconst (v := (0 : Int32)) hC.1 hC.2.1 d_AckBookModel_came_57 (by decide) ?_
      exact x_iret hC hRc hRs hZ hr rfl h d_AckBookModel_came_58
    · have h := z_ifp hc h
      refine x_aload_n hC d_AckBookModel_came_34 rfl (lv_at hl 0 rfl) ?_
      refine x_aload_n hC d_AckBookModel_came_35 rfl (lv_at hl 0 rfl) ?_
      refine x_getR hC hZ zc10 h (by decide) t_830 (fun _ h9 => h9) d_AckBookModel_came_36 (fun r131 h => ?_)
      refine lv_iload_n hC.1 hC.2.1 d_AckBookModel_came_39 rfl (lv_at hl 1 rfl) ?_
      refine x_ldZ hC hZ h d_AckBookModel_came_40 (fun v132 h => ?_)
      refine lv_iconst (v := (2 : Int32)) hC.1 hC.2.1 d_AckBookModel_came_41 (by decide) ?_
      obtain ⟨a_, fs_, eo_, h⟩ := z_this_spec h
      obtain ⟨w1_, o1_, hF_, ha_⟩ := z_cI_spec h
      refine x_goes hC hRc hRs hFr ha_ (z_goV (As := [.int v132, .int (2 : Int32)]) hC hZ zc10 eo_ (k_AckBookModel_fails hT hfl hE _ _ hF_) t_947 t_949 ts_AckBookModel_fails t_12 t_950 ⟨by decide, by decide, (by decide +kernel : (parseMethodDescriptor y_AckBookModel_fails.desc).map (fun d => d.parameters.length) = some 2)⟩ (by rw [hRt.1]; decide) (by rw [hRt.2]; decide) hl.1 rfl (by first | exact Nat.le_of_ble_eq_true rfl | simp [z_rfc, z_ci, z_cj]) d_AckBookModel_came_42) (fun v_ hv H locs cells slots hZ => ?_)
      obtain ⟨v134, rfl, h⟩ := hv
      generalize w1_ = w at h hZ
      refine lv_if_ne (tgt := 57) hC.1 hC.2.1 d_AckBookModel_came_45 (by decide) (fun hc => ?_) (fun hc => ?_)
      · have h := z_ifn hc h
        refine lv_iconst (v := (0 : Int32)) hC.1 hC.2.1 d_AckBookModel_came_57 (by decide) ?_
        exact x_iret hC hRc hRs hZ hr rfl h d_AckBookModel_came_58
      · have h := z_ifp hc h
        refine x_aload_n hC d_AckBookModel_came_48 rfl (lv_at hl 0 rfl) ?_
        refine lv_iload_n hC.1 hC.2.1 d_AckBookModel_came_49 rfl (lv_at hl 1 rfl) ?_
        refine lv_lload_n hC.1 hC.2.1 d_AckBookModel_came_50 rfl (lv_at hl 2 rfl) ?_
        obtain ⟨a_, fs_, eo_, h⟩ := z_this_spec h
        obtain ⟨w1_, o1_, hF_, ha_⟩ := z_cI_spec h
        refine x_goes hC hRc hRs hFr ha_ (z_goV (As := [.int pI1, .long pJ2]) hC hZ zc10 eo_ (k_AckBookModel_isOld hT hfl hE _ _ hF_) t_1053 t_1055 ts_AckBookModel_isOld t_12 t_1056 ⟨by decide, by decide, (by decide +kernel : (parseMethodDescriptor y_AckBookModel_isOld.desc).map (fun d => d.parameters.length) = some 2)⟩ (by rw [hRt.1]; decide) (by rw [hRt.2]; decide) hl.1 rfl (by first | exact Nat.le_of_ble_eq_true rfl | simp [z_rfc, z_ci, z_cj]) d_AckBookModel_came_51) (fun v_ hv H locs cells slots hZ => ?_)
        obtain ⟨v136, rfl, h⟩ := hv
        generalize w1_ = w at h hZ
        refine lv_if_eq (tgt := 59) hC.1 hC.2.1 d_AckBookModel_came_54 (by decide) (fun hc => ?_) (fun hc => ?_)
        · have h := z_ifp hc h
          refine x_aload_n hC d_AckBookModel_came_59 rfl (lv_at hl 0 rfl) ?_
          refine lv_iload_n hC.1 hC.2.1 d_AckBookModel_came_60 rfl (lv_at hl 1 rfl) ?_
          obtain ⟨a_, fs_, eo_, h⟩ := z_this_spec h
          obtain ⟨w1_, o1_, hF_, ha_⟩ := z_cL_spec h
          refine x_goes hC hRc hRs hFr ha_ (z_goV (As := [.int pI1]) hC hZ zc10 eo_ (k_AckBookModel_greatest hT hfl hE _ _ hF_) t_1057 t_1059 ts_AckBookModel_greatest t_12 t_1060 ⟨by decide, by decide, (by decide +kernel : (parseMethodDescriptor y_AckBookModel_greatest.desc).map (fun d => d.parameters.length) = some 1)⟩ (by rw [hRt.1]; decide) (by rw [hRt.2]; decide) hl.1 rfl (by first | exact Nat.le_of_ble_eq_true rfl | simp [z_rfc, z_ci, z_cj]) d_AckBookModel_came_61) (fun v_ hv H locs cells slots hZ => ?_)
          obtain ⟨v138, rfl, h⟩ := hv
          generalize w1_ = w at h hZ
          refine lv_lstore (i := 5) (lv' := [(5, .long v138), (0, va_rf a0), (1, .int pI1), (2, .long pJ2), (4, .int pI3)]) hC.1 hC.2.1 d_AckBookModel_came_64 hl (by decide) (by first | rfl | simp [z_rfc, z_ci, z_cj]) (fun ls hl => ?_)
          refine lv_lload_n hC.1 hC.2.1 d_AckBookModel_came_66 rfl (lv_at hl 3 rfl) ?_
          refine lv_lload hC.1 hC.2.1 d_AckBookModel_came_67 (lv_at hl 0 rfl) ?_
          refine W.lcmp hC.1 hC.2.1 d_AckBookModel_came_69 ?_
          refine lv_if_le (tgt := 83) hC.1 hC.2.1 d_AckBookModel_came_70 (by decide) (fun hc => ?_) (fun hc => ?_)
          · have h := z_ifp hc h
            refine x_aload_n hC d_AckBookModel_came_83 rfl (lv_at hl 1 rfl) ?_
            refine lv_iload_n hC.1 hC.2.1 d_AckBookModel_came_84 rfl (lv_at hl 2 rfl) ?_
            refine lv_lload_n hC.1 hC.2.1 d_AckBookModel_came_85 rfl (lv_at hl 3 rfl) ?_
            obtain ⟨a_, fs_, eo_, h⟩ := z_this_spec h
            obtain ⟨w1_, o1_, hF_, ha_⟩ := z_cV_spec h
            refine x_goes hC hRc hRs hFr ha_ (z_goV (As := [.int pI1, .long pJ2]) hC hZ zc10 eo_ (k_AckBookModel_comeIn hT hfl hE _ _ hF_) t_1062 t_1064 ts_AckBookModel_comeIn t_12 t_1065 ⟨by decide, by decide, (by decide +kernel : (parseMethodDescriptor y_AckBookModel_comeIn.desc).map (fun d => d.parameters.length) = some 2)⟩ (by rw [hRt.1]; decide) (by rw [hRt.2]; decide) hl.1 rfl (by first | exact Nat.le_of_ble_eq_true rfl | simp [z_rfc, z_ci, z_cj]) d_AckBookModel_came_86) (fun v_ hv H locs cells slots hZ => ?_)
            obtain ⟨rfl, h⟩ := hv
            generalize w1_ = w at h hZ
            refine lv_iload hC.1 hC.2.1 d_AckBookModel_came_89 (lv_at hl 4 rfl) ?_
            refine lv_if_ne (tgt := 96) hC.1 hC.2.1 d_AckBookModel_came_91 (by decide) (fun hc => ?_) (fun hc => ?_)
            · have h := z_ifn hc h
              refine x_aload_n hC d_AckBookModel_came_96 rfl (lv_at hl 1 rfl) ?_
              refine x_getR hC hZ zc10 h (by decide) t_854 (fun _ h9 => h9) d_AckBookModel_came_97 (fun r140 h => ?_)
              refine lv_iload_n hC.1 hC.2.1 d_AckBookModel_came_100 rfl (lv_at hl 2 rfl) ?_
              refine x_ldI hC hZ h d_AckBookModel_came_101 (fun v141 h => ?_)
              refine lv_if_ne (tgt := 115) hC.1 hC.2.1 d_AckBookModel_came_102 (by decide) (fun hc => ?_) (fun hc => ?_)
              · have h := z_ifn hc h
                refine x_aload_n hC d_AckBookModel_came_115 rfl (lv_at hl 1 rfl) ?_
                refine x_getR hC hZ zc10 h (by decide) t_854 (fun _ h9 => h9) d_AckBookModel_came_116 (fun r149 h => ?_)
                refine lv_iload_n hC.1 hC.2.1 d_AckBookModel_came_119 rfl (lv_at hl 2 rfl) ?_
                refine lv_dup2_11 hC.1 hC.2.1 d_AckBookModel_came_120 rfl (z_rfc _) ?_
                refine x_ldI hC hZ h d_AckBookModel_came_121 (fun v150 h => ?_)
                refine lv_iconst (v := (1 : Int32)) hC.1 hC.2.1 d_AckBookModel_came_122 (by decide) ?_
                refine lv_iadd hC.1 hC.2.1 d_AckBookModel_came_123 ?_
                refine x_stI hC hZ h d_AckBookModel_came_124 (fun w H locs hZ h => ?_)
                refine x_aload_n hC d_AckBookModel_came_125 rfl (lv_at hl 1 rfl) ?_
                refine x_getR hC hZ zc10 h (by decide) t_856 (fun _ h9 => h9) d_AckBookModel_came_126 (fun r151 h => ?_)
                refine lv_iload_n hC.1 hC.2.1 d_AckBookModel_came_129 rfl (lv_at hl 2 rfl) ?_
                refine x_aload_n hC d_AckBookModel_came_130 rfl (lv_at hl 1 rfl) ?_
                refine x_getR hC hZ zc10 h (by decide) t_856 (fun _ h9 => h9) d_AckBookModel_came_131 (fun r152 h => ?_)
                refine lv_iload_n hC.1 hC.2.1 d_AckBookModel_came_134 rfl (lv_at hl 2 rfl) ?_
                refine x_ldZ hC hZ h d_AckBookModel_came_135 (fun v153 h => ?_)
                refine lv_if_ne (tgt := 148) hC.1 hC.2.1 d_AckBookModel_came_136 (by decide) (fun hc => ?_) (fun hc => ?_)
                · have h := z_ifn hc h
                  refine lv_iconst (v := (1 : Int32)) hC.1 hC.2.1 d_AckBookModel_came_148 (by decide) ?_
                  refine lv_goto (tgt := 153) hC.1 hC.2.1 d_AckBookModel_came_149 (by decide) ?_
                  refine x_stZ hC hZ h d_AckBookModel_came_153 (fun w H locs hZ h => ?_)
                  refine lv_iconst (v := (1 : Int32)) hC.1 hC.2.1 d_AckBookModel_came_154 (by decide) ?_
                  exact x_iret hC hRc hRs hZ hr rfl h d_AckBookModel_came_155
                · have h := z_ifp hc h
                  refine lv_lload_n hC.1 hC.2.1 d_AckBookModel_came_139 rfl (lv_at hl 3 rfl) ?_
                  refine lv_lload hC.1 hC.2.1 d_AckBookModel_came_140 (lv_at hl 0 rfl) ?_
                  refine lv_lconst (v := (1 : Int64)) hC.1 hC.2.1 d_AckBookModel_came_142 (by decide) ?_
                  refine lv_ladd hC.1 hC.2.1 d_AckBookModel_came_143 ?_
                  refine W.lcmp hC.1 hC.2.1 d_AckBookModel_came_144 ?_
                  refine lv_if_eq (tgt := 152) hC.1 hC.2.1 d_AckBookModel_came_145 (by decide) (fun hc => ?_) (fun hc => ?_)
                  · have h := z_ifp hc h
                    refine lv_iconst (v := (0 : Int32)) hC.1 hC.2.1 d_AckBookModel_came_152 (by decide) ?_
                    refine x_stZ hC hZ h d_AckBookModel_came_153 (fun w H locs hZ h => ?_)
                    refine lv_iconst (v := (1 : Int32)) hC.1 hC.2.1 d_AckBookModel_came_154 (by decide) ?_
                    exact x_iret hC hRc hRs hZ hr rfl h d_AckBookModel_came_155
                  · have h := z_ifn hc h
                    refine lv_iconst (v := (1 : Int32)) hC.1 hC.2.1 d_AckBookModel_came_148 (by decide) ?_
                    refine lv_goto (tgt := 153) hC.1 hC.2.1 d_AckBookModel_came_149 (by decide) ?_
                    refine x_stZ hC hZ h d_AckBookModel_came_153 (fun w H locs hZ h => ?_)
                    refine lv_iconst (v := (1 : Int32)) hC.1 hC.2.1 d_AckBookModel_came_154 (by decide) ?_
                    exact x_iret hC hRc hRs hZ hr rfl h d_AckBookModel_came_155
              · have h := z_ifp hc h
                refine x_aload_n hC d_AckBookModel_came_105 rfl (lv_at hl 1 rfl) ?_
                refine x_getR hC hZ zc10 h (by decide) t_855 (fun _ h9 => h9) d_AckBookModel_came_106 (fun r142 h => ?_)
                refine lv_iload_n hC.1 hC.2.1 d_AckBookModel_came_109 rfl (lv_at hl 2 rfl) ?_
                refine x_aload_n hC d_AckBookModel_came_110 rfl (lv_at hl 1 rfl) ?_
                refine x_getI hC hZ zc10 h (by decide) t_820 (fun _ h9 => h9) d_AckBookModel_came_111 (fun v143 h => ?_)
                refine x_stI hC hZ h d_AckBookModel_came_114 (fun w H locs hZ h => ?_)
                refine x_aload_n hC d_AckBookModel_came_115 rfl (lv_at hl 1 rfl) ?_
                refine x_getR hC hZ zc10 h (by decide) t_854 (fun _ h9 => h9) d_AckBookModel_came_116 (fun r144 h => ?_)
                refine lv_iload_n hC.1 hC.2.1 d_AckBookModel_came_119 rfl (lv_at hl 2 rfl) ?_
                refine lv_dup2_11 hC.1 hC.2.1 d_AckBookModel_came_120 rfl (z_rfc _) ?_
                refine x_ldI hC hZ h d_AckBookModel_came_121 (fun v145 h => ?_)
                refine lv_iconst (v := (1 : Int32)) hC.1 hC.2.1 d_AckBookModel_came_122 (by decide) ?_
                refine lv_iadd hC.1 hC.2.1 d_AckBookModel_came_123 ?_
                refine x_stI hC hZ h d_AckBookModel_came_124 (fun w H locs hZ h => ?_)
                refine x_aload_n hC d_AckBookModel_came_125 rfl (lv_at hl 1 rfl) ?_
                refine x_getR hC hZ zc10 h (by decide) t_856 (fun _ h9 => h9) d_AckBookModel_came_126 (fun r146 h => ?_)
                refine lv_iload_n hC.1 hC.2.1 d_AckBookModel_came_129 rfl (lv_at hl 2 rfl) ?_
                refine x_aload_n hC d_AckBookModel_came_130 rfl (lv_at hl 1 rfl) ?_
                refine x_getR hC hZ zc10 h (by decide) t_856 (fun _ h9 => h9) d_AckBookModel_came_131 (fun r147 h => ?_)
                refine lv_iload_n hC.1 hC.2.1 d_AckBookModel_came_134 rfl (lv_at hl 2 rfl) ?_
                refine x_ldZ hC hZ h d_AckBookModel_came_135 (fun v148 h => ?_)
                refine lv_if_ne (tgt := 148) hC.1 hC.2.1 d_AckBookModel_came_136 (by decide) (fun hc => ?_) (fun hc => ?_)
                · have h := z_ifn hc h
                  refine lv_iconst (v := (1 : Int32)) hC.1 hC.2.1 d_AckBookModel_came_148 (by decide) ?_
                  refine lv_goto (tgt := 153) hC.1 hC.2.1 d_AckBookModel_came_149 (by decide) ?_
                  refine x_stZ hC hZ h d_AckBookModel_came_153 (fun w H locs hZ h => ?_)
                  refine lv_iconst (v := (1 : Int32)) hC.1 hC.2.1 d_AckBookModel_came_154 (by decide) ?_
                  exact x_iret hC hRc hRs hZ hr rfl h d_AckBookModel_came_155
                · have h := z_ifp hc h
                  refine lv_lload_n hC.1 hC.2.1 d_AckBookModel_came_139 rfl (lv_at hl 3 rfl) ?_
                  refine lv_lload hC.1 hC.2.1 d_AckBookModel_came_140 (lv_at hl 0 rfl) ?_
                  refine lv_lconst (v := (1 : Int64)) hC.1 hC.2.1 d_AckBookModel_came_142 (by decide) ?_
                  refine lv_ladd hC.1 hC.2.1 d_AckBookModel_came_143 ?_
                  refine W.lcmp hC.1 hC.2.1 d_AckBookModel_came_144 ?_
                  refine lv_if_eq (tgt := 152) hC.1 hC.2.1 d_AckBookModel_came_145 (by decide) (fun hc => ?_) (fun hc => ?_)
                  · have h := z_ifp hc h
                    refine lv_iconst (v := (0 : Int32)) hC.1 hC.2.1 d_AckBookModel_came_152 (by decide) ?_
                    refine x_stZ hC hZ h d_AckBookModel_came_153 (fun w H locs hZ h => ?_)
                    refine lv_iconst (v := (1 : Int32)) hC.1 hC.2.1 d_AckBookModel_came_154 (by decide) ?_
                    exact x_iret hC hRc hRs hZ hr rfl h d_AckBookModel_came_155
                  · have h := z_ifn hc h
                    refine lv_iconst (v := (1 : Int32)) hC.1 hC.2.1 d_AckBookModel_came_148 (by decide) ?_
                    refine lv_goto (tgt := 153) hC.1 hC.2.1 d_AckBookModel_came_149 (by decide) ?_
                    refine x_stZ hC hZ h d_AckBookModel_came_153 (fun w H locs hZ h => ?_)
                    refine lv_iconst (v := (1 : Int32)) hC.1 hC.2.1 d_AckBookModel_came_154 (by decide) ?_
                    exact x_iret hC hRc hRs hZ hr rfl h d_AckBookModel_came_155
            · have h := z_ifp hc h
              refine lv_iconst (v := (1 : Int32)) hC.1 hC.2.1 d_AckBookModel_came_94 (by decide) ?_
              exact x_iret hC hRc hRs hZ hr rfl h d_AckBookModel_came_95
          · have h := z_ifn hc h
            refine x_aload_n hC d_AckBookModel_came_73 rfl (lv_at hl 1 rfl) ?_
            refine x_getR hC hZ zc10 h (by decide) t_853 (fun _ h9 => h9) d_AckBookModel_came_74 (fun r154 h => ?_)
            refine lv_iload_n hC.1 hC.2.1 d_AckBookModel_came_77 rfl (lv_at hl 2 rfl) ?_
            refine x_aload_n hC d_AckBookModel_came_78 rfl (lv_at hl 1 rfl) ?_
            refine x_getI hC hZ zc10 h (by decide) t_820 (fun _ h9 => h9) d_AckBookModel_came_79 (fun v155 h => ?_)
            refine x_stI hC hZ h d_AckBookModel_came_82 (fun w H locs hZ h => ?_)
            refine x_aload_n hC d_AckBookModel_came_83 rfl (lv_at hl 1 rfl) ?_
            refine lv_iload_n hC.1 hC.2.1 d_AckBookModel_came_84 rfl (lv_at hl 2 rfl) ?_
            refine lv_lload_n hC.1 hC.2.1 d_AckBookModel_came_85 rfl (lv_at hl 3 rfl) ?_
            obtain ⟨a_, fs_, eo_, h⟩ := z_this_spec h
            obtain ⟨w1_, o1_, hF_, ha_⟩ := z_cV_spec h
            refine x_goes hC hRc hRs hFr ha_ (z_goV (As := [.int pI1, .long pJ2]) hC hZ zc10 eo_ (k_AckBookModel_comeIn hT hfl hE _ _ hF_) t_1062 t_1064 ts_AckBookModel_comeIn t_12 t_1065 ⟨by decide, by decide, (by decide +kernel : (parseMethodDescriptor y_AckBookModel_comeIn.desc).map (fun d => d.parameters.length) = some 2)⟩ (by rw [hRt.1]; decide) (by rw [hRt.2]; decide) hl.1 rfl (by first | exact Nat.le_of_ble_eq_true rfl | simp [z_rfc, z_ci, z_cj]) d_AckBookModel_came_86) (fun v_ hv H locs cells slots hZ => ?_)
            obtain ⟨rfl, h⟩ := hv
            generalize w1_ = w at h hZ
            refine lv_iload hC.1 hC.2.1 d_AckBookModel_came_89 (lv_at hl 4 rfl) ?_
            refine lv_if_ne (tgt := 96) hC.1 hC.2.1 d_AckBookModel_came_91 (by decide) (fun hc => ?_) (fun hc => ?_)
            · have h := z_ifn hc h
              refine x_aload_n hC d_AckBookModel_came_96 rfl (lv_at hl 1 rfl) ?_
              refine x_getR hC hZ zc10 h (by decide) t_854 (fun _ h9 => h9) d_AckBookModel_came_97 (fun r157 h => ?_)
              refine lv_iload_n hC.1 hC.2.1 d_AckBookModel_came_100 rfl (lv_at hl 2 rfl) ?_
              refine x_ldI hC hZ h d_AckBookModel_came_101 (fun v158 h => ?_)
              refine lv_if_ne (tgt := 115) hC.1 hC.2.1 d_AckBookModel_came_102 (by decide) (fun hc => ?_) (fun hc => ?_)
              · have h := z_ifn hc h
                refine x_aload_n hC d_AckBookModel_came_115 rfl (lv_at hl 1 rfl) ?_
                refine x_getR hC hZ zc10 h (by decide) t_854 (fun _ h9 => h9) d_AckBookModel_came_116 (fun r166 h => ?_)
                refine lv_iload_n hC.1 hC.2.1 d_AckBookModel_came_119 rfl (lv_at hl 2 rfl) ?_
                refine lv_dup2_11 hC.1 hC.2.1 d_AckBookModel_came_120 rfl (z_rfc _) ?_
                refine x_ldI hC hZ h d_AckBookModel_came_121 (fun v167 h => ?_)
                refine lv_iconst (v := (1 : Int32)) hC.1 hC.2.1 d_AckBookModel_came_122 (by decide) ?_
                refine lv_iadd hC.1 hC.2.1 d_AckBookModel_came_123 ?_
                refine x_stI hC hZ h d_AckBookModel_came_124 (fun w H locs hZ h => ?_)
                refine x_aload_n hC d_AckBookModel_came_125 rfl (lv_at hl 1 rfl) ?_
                refine x_getR hC hZ zc10 h (by decide) t_856 (fun _ h9 => h9) d_AckBookModel_came_126 (fun r168 h => ?_)
                refine lv_iload_n hC.1 hC.2.1 d_AckBookModel_came_129 rfl (lv_at hl 2 rfl) ?_
                refine x_aload_n hC d_AckBookModel_came_130 rfl (lv_at hl 1 rfl) ?_
                refine x_getR hC hZ zc10 h (by decide) t_856 (fun _ h9 => h9) d_AckBookModel_came_131 (fun r169 h => ?_)
                refine lv_iload_n hC.1 hC.2.1 d_AckBookModel_came_134 rfl (lv_at hl 2 rfl) ?_
                refine x_ldZ hC hZ h d_AckBookModel_came_135 (fun v170 h => ?_)
                refine lv_if_ne (tgt := 148) hC.1 hC.2.1 d_AckBookModel_came_136 (by decide) (fun hc => ?_) (fun hc => ?_)
                · have h := z_ifn hc h
                  refine lv_iconst (v := (1 : Int32)) hC.1 hC.2.1 d_AckBookModel_came_148 (by decide) ?_
                  refine lv_goto (tgt := 153) hC.1 hC.2.1 d_AckBookModel_came_149 (by decide) ?_
                  refine x_stZ hC hZ h d_AckBookModel_came_153 (fun w H locs hZ h => ?_)
                  refine lv_iconst (v := (1 : Int32)) hC.1 hC.2.1 d_AckBookModel_came_154 (by decide) ?_
                  exact x_iret hC hRc hRs hZ hr rfl h d_AckBookModel_came_155
                · have h := z_ifp hc h
                  refine lv_lload_n hC.1 hC.2.1 d_AckBookModel_came_139 rfl (lv_at hl 3 rfl) ?_
                  refine lv_lload hC.1 hC.2.1 d_AckBookModel_came_140 (lv_at hl 0 rfl) ?_
                  refine lv_lconst (v := (1 : Int64)) hC.1 hC.2.1 d_AckBookModel_came_142 (by decide) ?_
                  refine lv_ladd hC.1 hC.2.1 d_AckBookModel_came_143 ?_
                  refine W.lcmp hC.1 hC.2.1 d_AckBookModel_came_144 ?_
                  refine lv_if_eq (tgt := 152) hC.1 hC.2.1 d_AckBookModel_came_145 (by decide) (fun hc => ?_) (fun hc => ?_)
                  · have h := z_ifp hc h
                    refine lv_iconst (v := (0 : Int32)) hC.1 hC.2.1 d_AckBookModel_came_152 (by decide) ?_
                    refine x_stZ hC hZ h d_AckBookModel_came_153 (fun w H locs hZ h => ?_)
                    refine lv_iconst (v := (1 : Int32)) hC.1 hC.2.1 d_AckBookModel_came_154 (by decide) ?_
                    exact x_iret hC hRc hRs hZ hr rfl h d_AckBookModel_came_155
                  · have h := z_ifn hc h
                    refine lv_iconst (v := (1 : Int32)) hC.1 hC.2.1 d_AckBookModel_came_148 (by decide) ?_
                    refine lv_goto (tgt := 153) hC.1 hC.2.1 d_AckBookModel_came_149 (by decide) ?_
                    refine x_stZ hC hZ h d_AckBookModel_came_153 (fun w H locs hZ h => ?_)
                    refine lv_iconst (v := (1 : Int32)) hC.1 hC.2.1 d_AckBookModel_came_154 (by decide) ?_
                    exact x_iret hC hRc hRs hZ hr rfl h d_AckBookModel_came_155
              · have h := z_ifp hc h
                refine x_aload_n hC d_AckBookModel_came_105 rfl (lv_at hl 1 rfl) ?_
                refine x_getR hC hZ zc10 h (by decide) t_855 (fun _ h9 => h9) d_AckBookModel_came_106 (fun r159 h => ?_)
                refine lv_iload_n hC.1 hC.2.1 d_AckBookModel_came_109 rfl (lv_at hl 2 rfl) ?_
                refine x_aload_n hC d_AckBookModel_came_110 rfl (lv_at hl 1 rfl) ?_
                refine x_getI hC hZ zc10 h (by decide) t_820 (fun _ h9 => h9) d_AckBookModel_came_111 (fun v160 h => ?_)
                refine x_stI hC hZ h d_AckBookModel_came_114 (fun w H locs hZ h => ?_)
                refine x_aload_n hC d_AckBookModel_came_115 rfl (lv_at hl 1 rfl) ?_
                refine x_getR hC hZ zc10 h (by decide) t_854 (fun _ h9 => h9) d_AckBookModel_came_116 (fun r161 h => ?_)
                refine lv_iload_n hC.1 hC.2.1 d_AckBookModel_came_119 rfl (lv_at hl 2 rfl) ?_
                refine lv_dup2_11 hC.1 hC.2.1 d_AckBookModel_came_120 rfl (z_rfc _) ?_
                refine x_ldI hC hZ h d_AckBookModel_came_121 (fun v162 h => ?_)
                refine lv_iconst (v := (1 : Int32)) hC.1 hC.2.1 d_AckBookModel_came_122 (by decide) ?_
                refine lv_iadd hC.1 hC.2.1 d_AckBookModel_came_123 ?_
                refine x_stI hC hZ h d_AckBookModel_came_124 (fun w H locs hZ h => ?_)
                refine x_aload_n hC d_AckBookModel_came_125 rfl (lv_at hl 1 rfl) ?_
                refine x_getR hC hZ zc10 h (by decide) t_856 (fun _ h9 => h9) d_AckBookModel_came_126 (fun r163 h => ?_)
                refine lv_iload_n hC.1 hC.2.1 d_AckBookModel_came_129 rfl (lv_at hl 2 rfl) ?_
                refine x_aload_n hC d_AckBookModel_came_130 rfl (lv_at hl 1 rfl) ?_
                refine x_getR hC hZ zc10 h (by decide) t_856 (fun _ h9 => h9) d_AckBookModel_came_131 (fun r164 h => ?_)
                refine lv_iload_n hC.1 hC.2.1 d_AckBookModel_came_134 rfl (lv_at hl 2 rfl) ?_
                refine x_ldZ hC hZ h d_AckBookModel_came_135 (fun v165 h => ?_)
                refine lv_if_ne (tgt := 148) hC.1 hC.2.1 d_AckBookModel_came_136 (by decide) (fun hc => ?_) (fun hc => ?_)
                · have h := z_ifn hc h
                  refine lv_iconst (v := (1 : Int32)) hC.1 hC.2.1 d_AckBookModel_came_148 (by decide) ?_
                  refine lv_goto (tgt := 153) hC.1 hC.2.1 d_AckBookModel_came_149 (by decide) ?_
                  refine x_stZ hC hZ h d_AckBookModel_came_153 (fun w H locs hZ h => ?_)
                  refine lv_iconst (v := (1 : Int32)) hC.1 hC.2.1 d_AckBookModel_came_154 (by decide) ?_
                  exact x_iret hC hRc hRs hZ hr rfl h d_AckBookModel_came_155
                · have h := z_ifp hc h
                  refine lv_lload_n hC.1 hC.2.1 d_AckBookModel_came_139 rfl (lv_at hl 3 rfl) ?_
                  refine lv_lload hC.1 hC.2.1 d_AckBookModel_came_140 (lv_at hl 0 rfl) ?_
                  refine lv_lconst (v := (1 : Int64)) hC.1 hC.2.1 d_AckBookModel_came_142 (by decide) ?_
                  refine lv_ladd hC.1 hC.2.1 d_AckBookModel_came_143 ?_
                  refine W.lcmp hC.1 hC.2.1 d_AckBookModel_came_144 ?_
                  refine lv_if_eq (tgt := 152) hC.1 hC.2.1 d_AckBookModel_came_145 (by decide) (fun hc => ?_) (fun hc => ?_)
                  · have h := z_ifp hc h
                    refine lv_iconst (v := (0 : Int32)) hC.1 hC.2.1 d_AckBookModel_came_152 (by decide) ?_
                    refine x_stZ hC hZ h d_AckBookModel_came_153 (fun w H locs hZ h => ?_)
                    refine lv_iconst (v := (1 : Int32)) hC.1 hC.2.1 d_AckBookModel_came_154 (by decide) ?_
                    exact x_iret hC hRc hRs hZ hr rfl h d_AckBookModel_came_155
                  · have h := z_ifn hc h
                    refine lv_iconst (v := (1 : Int32)) hC.1 hC.2.1 d_AckBookModel_came_148 (by decide) ?_
                    refine lv_goto (tgt := 153) hC.1 hC.2.1 d_AckBookModel_came_149 (by decide) ?_
                    refine x_stZ hC hZ h d_AckBookModel_came_153 (fun w H locs hZ h => ?_)
                    refine lv_iconst (v := (1 : Int32)) hC.1 hC.2.1 d_AckBookModel_came_154 (by decide) ?_
                    exact x_iret hC hRc hRs hZ hr rfl h d_AckBookModel_came_155
            · have h := z_ifp hc h
              refine lv_iconst (v := (1 : Int32)) hC.1 hC.2.1 d_AckBookModel_came_94 (by decide) ?_
              exact x_iret hC hRc hRs hZ hr rfl h d_AckBookModel_came_95
        · have h := z_ifn hc h
          refine lv_iconst (v := (0 : Int32)) hC.1 hC.2.1 d_AckBookModel_came_57 (by decide) ?_
          exact x_iret hC hRc hRs hZ hr rfl h d_AckBookModel_came_58
  · have h := z_ifp hc h
    refine lv_lload_n hC.1 hC.2.1 d_AckBookModel_came_8 rfl (lv_at hl 2 rfl) ?_
    refine lv_lconst (v := (0 : Int64)) hC.1 hC.2.1 d_AckBookModel_came_9 (by decide) ?_
    refine W.lcmp hC.1 hC.2.1 d_AckBookModel_came_10 ?_
    refine lv_if_lt (tgt := 22) hC.1 hC.2.1 d_AckBookModel_came_11 (by decide) (fun hc => ?_) (fun hc => ?_)
    · have h := z_ifp hc h
      refine lv_iconst (v := (1 : Int32)) hC.1 hC.2.1 d_AckBookModel_came_22 (by decide) ?_
      refine lv_goto (tgt := 27) hC.1 hC.2.1 d_AckBookModel_came_23 (by decide) ?_
      refine lv_iconst (v := (1 : Int32)) hC.1 hC.2.1 d_AckBookModel_came_27 (by decide) ?_
      obtain ⟨a_, fs_, eo_, h⟩ := z_this_spec h
      obtain ⟨w1_, o1_, hF_, ha_⟩ := z_cI_spec h
      refine x_goes hC hRc hRs hFr ha_ (z_goV (As := [.int (1 : Int32), .int (1 : Int32)]) hC hZ zc10 eo_ (k_AckBookModel_fails hT hfl hE _ _ hF_) t_947 t_949 ts_AckBookModel_fails t_12 t_950 ⟨by decide, by decide, (by decide +kernel : (parseMethodDescriptor y_AckBookModel_fails.desc).map (fun d => d.parameters.length) = some 2)⟩ (by rw [hRt.1]; decide) (by rw [hRt.2]; decide) hl.1 rfl (by first | exact Nat.le_of_ble_eq_true rfl | simp [z_rfc, z_ci, z_cj]) d_AckBookModel_came_28) (fun v_ hv H locs cells slots hZ => ?_)
      obtain ⟨v4, rfl, h⟩ := hv
      generalize w1_ = w at h hZ
      refine lv_if_ne (tgt := 57) hC.1 hC.2.1 d_AckBookModel_came_31 (by decide) (fun hc => ?_) (fun hc => ?_)
      · have h := z_ifn hc h
        refine lv_iconst (v := (0 : Int32)) hC.1 hC.2.1 d_AckBookModel_came_57 (by decide) ?_
        exact x_iret hC hRc hRs hZ hr rfl h d_AckBookModel_came_58
      · have h := z_ifp hc h
        refine x_aload_n hC d_AckBookModel_came_34 rfl (lv_at hl 0 rfl) ?_
        refine x_aload_n hC d_AckBookModel_came_35 rfl (lv_at hl 0 rfl) ?_
        refine x_getR hC hZ zc10 h (by decide) t_830 (fun _ h9 => h9) d_AckBookModel_came_36 (fun r5 h => ?_)
        refine lv_iload_n hC.1 hC.2.1 d_AckBookModel_came_39 rfl (lv_at hl 1 rfl) ?_
        refine x_ldZ hC hZ h d_AckBookModel_came_40 (fun v6 h => ?_)
        refine lv_iconst (v := (2 : Int32)) hC.1 hC.2.1 d_AckBookModel_came_41 (by decide) ?_
        obtain ⟨a_, fs_, eo_, h⟩ := z_this_spec h
        obtain ⟨w1_, o1_, hF_, ha_⟩ := z_cI_spec h
        refine x_goes hC hRc hRs hFr ha_ (z_goV (As := [.int v6, .int (2 : Int32)]) hC hZ zc10 eo_ (k_AckBookModel_fails hT hfl hE _ _ hF_) t_947 t_949 ts_AckBookModel_fails t_12 t_950 ⟨by decide, by decide, (by decide +kernel : (parseMethodDescriptor y_AckBookModel_fails.desc).map (fun d => d.parameters.length) = some 2)⟩ (by rw [hRt.1]; decide) (by rw [hRt.2]; decide) hl.1 rfl (by first | exact Nat.le_of_ble_eq_true rfl | simp [z_rfc, z_ci, z_cj]) d_AckBookModel_came_42) (fun v_ hv H locs cells slots hZ => ?_)
        obtain ⟨v8, rfl, h⟩ := hv
        generalize w1_ = w at h hZ
        refine lv_if_ne (tgt := 57) hC.1 hC.2.1 d_AckBookModel_came_45 (by decide) (fun hc => ?_) (fun hc => ?_)
        · have h := z_ifn hc h
          refine lv_iconst (v := (0 : Int32)) hC.1 hC.2.1 d_AckBookModel_came_57 (by decide) ?_
          exact x_iret hC hRc hRs hZ hr rfl h d_AckBookModel_came_58
        · have h := z_ifp hc h
          refine x_aload_n hC d_AckBookModel_came_48 rfl (lv_at hl 0 rfl) ?_
          refine lv_iload_n hC.1 hC.2.1 d_AckBookModel_came_49 rfl (lv_at hl 1 rfl) ?_
          refine lv_lload_n hC.1 hC.2.1 d_AckBookModel_came_50 rfl (lv_at hl 2 rfl) ?_
          obtain ⟨a_, fs_, eo_, h⟩ := z_this_spec h
          obtain ⟨w1_, o1_, hF_, ha_⟩ := z_cI_spec h
          refine x_goes hC hRc hRs hFr ha_ (z_goV (As := [.int pI1, .long pJ2]) hC hZ zc10 eo_ (k_AckBookModel_isOld hT hfl hE _ _ hF_) t_1053 t_1055 ts_AckBookModel_isOld t_12 t_1056 ⟨by decide, by decide, (by decide +kernel : (parseMethodDescriptor y_AckBookModel_isOld.desc).map (fun d => d.parameters.length) = some 2)⟩ (by rw [hRt.1]; decide) (by rw [hRt.2]; decide) hl.1 rfl (by first | exact Nat.le_of_ble_eq_true rfl | simp [z_rfc, z_ci, z_cj]) d_AckBookModel_came_51) (fun v_ hv H locs cells slots hZ => ?_)
          obtain ⟨v10, rfl, h⟩ := hv
          generalize w1_ = w at h hZ
          refine lv_if_eq (tgt := 59) hC.1 hC.2.1 d_AckBookModel_came_54 (by decide) (fun hc => ?_) (fun hc => ?_)
          · have h := z_ifp hc h
            refine x_aload_n hC d_AckBookModel_came_59 rfl (lv_at hl 0 rfl) ?_
            refine lv_iload_n hC.1 hC.2.1 d_AckBookModel_came_60 rfl (lv_at hl 1 rfl) ?_
            obtain ⟨a_, fs_, eo_, h⟩ := z_this_spec h
            obtain ⟨w1_, o1_, hF_, ha_⟩ := z_cL_spec h
            refine x_goes hC hRc hRs hFr ha_ (z_goV (As := [.int pI1]) hC hZ zc10 eo_ (k_AckBookModel_greatest hT hfl hE _ _ hF_) t_1057 t_1059 ts_AckBookModel_greatest t_12 t_1060 ⟨by decide, by decide, (by decide +kernel : (parseMethodDescriptor y_AckBookModel_greatest.desc).map (fun d => d.parameters.length) = some 1)⟩ (by rw [hRt.1]; decide) (by rw [hRt.2]; decide) hl.1 rfl (by first | exact Nat.le_of_ble_eq_true rfl | simp [z_rfc, z_ci, z_cj]) d_AckBookModel_came_61) (fun v_ hv H locs cells slots hZ => ?_)
            obtain ⟨v12, rfl, h⟩ := hv
            generalize w1_ = w at h hZ
            refine lv_lstore (i := 5) (lv' := [(5, .long v12), (0, va_rf a0), (1, .int pI1), (2, .long pJ2), (4, .int pI3)]) hC.1 hC.2.1 d_AckBookModel_came_64 hl (by decide) (by first | rfl | simp [z_rfc, z_ci, z_cj]) (fun ls hl => ?_)
            refine lv_lload_n hC.1 hC.2.1 d_AckBookModel_came_66 rfl (lv_at hl 3 rfl) ?_
            refine lv_lload hC.1 hC.2.1 d_AckBookModel_came_67 (lv_at hl 0 rfl) ?_
            refine W.lcmp hC.1 hC.2.1 d_AckBookModel_came_69 ?_
            refine lv_if_le (tgt := 83) hC.1 hC.2.1 d_AckBookModel_came_70 (by decide) (fun hc => ?_) (fun hc => ?_)
            · have h := z_ifp hc h
              refine x_aload_n hC d_AckBookModel_came_83 rfl (lv_at hl 1 rfl) ?_
              refine lv_iload_n hC.1 hC.2.1 d_AckBookModel_came_84 rfl (lv_at hl 2 rfl) ?_
              refine lv_lload_n hC.1 hC.2.1 d_AckBookModel_came_85 rfl (lv_at hl 3 rfl) ?_
              obtain ⟨a_, fs_, eo_, h⟩ := z_this_spec h
              obtain ⟨w1_, o1_, hF_, ha_⟩ := z_cV_spec h
              refine x_goes hC hRc hRs hFr ha_ (z_goV (As := [.int pI1, .long pJ2]) hC hZ zc10 eo_ (k_AckBookModel_comeIn hT hfl hE _ _ hF_) t_1062 t_1064 ts_AckBookModel_comeIn t_12 t_1065 ⟨by decide, by decide, (by decide +kernel : (parseMethodDescriptor y_AckBookModel_comeIn.desc).map (fun d => d.parameters.length) = some 2)⟩ (by rw [hRt.1]; decide) (by rw [hRt.2]; decide) hl.1 rfl (by first | exact Nat.le_of_ble_eq_true rfl | simp [z_rfc, z_ci, z_cj]) d_AckBookModel_came_86) (fun v_ hv H locs cells slots hZ => ?_)
              obtain ⟨rfl, h⟩ := hv
              generalize w1_ = w at h hZ
              refine lv_iload hC.1 hC.2.1 d_AckBookModel_came_89 (lv_at hl 4 rfl) ?_
              refine lv_if_ne (tgt := 96) hC.1 hC.2.1 d_AckBookModel_came_91 (by decide) (fun hc => ?_) (fun hc => ?_)
              · have h := z_ifn hc h
                refine x_aload_n hC d_AckBookModel_came_96 rfl (lv_at hl 1 rfl) ?_
                refine x_getR hC hZ zc10 h (by decide) t_854 (fun _ h9 => h9) d_AckBookModel_came_97 (fun r14 h => ?_)
                refine lv_iload_n hC.1 hC.2.1 d_AckBookModel_came_100 rfl (lv_at hl 2 rfl) ?_
                refine x_ldI hC hZ h d_AckBookModel_came_101 (fun v15 h => ?_)
                refine lv_if_ne (tgt := 115) hC.1 hC.2.1 d_AckBookModel_came_102 (by decide) (fun hc => ?_) (fun hc => ?_)
                · have h := z_ifn hc h
                  refine x_aload_n hC d_AckBookModel_came_115 rfl (lv_at hl 1 rfl) ?_
                  refine x_getR hC hZ zc10 h (by decide) t_854 (fun _ h9 => h9) d_AckBookModel_came_116 (fun r23 h => ?_)
                  refine lv_iload_n hC.1 hC.2.1 d_AckBookModel_came_119 rfl (lv_at hl 2 rfl) ?_
                  refine lv_dup2_11 hC.1 hC.2.1 d_AckBookModel_came_120 rfl (z_rfc _) ?_
                  refine x_ldI hC hZ h d_AckBookModel_came_121 (fun v24 h => ?_)
                  refine lv_iconst (v := (1 : Int32)) hC.1 hC.2.1 d_AckBookModel_came_122 (by decide) ?_
                  refine lv_iadd hC.1 hC.2.1 d_AckBookModel_came_123 ?_
                  refine x_stI hC hZ h d_AckBookModel_came_124 (fun w H locs hZ h => ?_)
                  refine x_aload_n hC d_AckBookModel_came_125 rfl (lv_at hl 1 rfl) ?_
                  refine x_getR hC hZ zc10 h (by decide) t_856 (fun _ h9 => h9) d_AckBookModel_came_126 (fun r25 h => ?_)
                  refine lv_iload_n hC.1 hC.2.1 d_AckBookModel_came_129 rfl (lv_at hl 2 rfl) ?_
                  refine x_aload_n hC d_AckBookModel_came_130 rfl (lv_at hl 1 rfl) ?_
                  refine x_getR hC hZ zc10 h (by decide) t_856 (fun _ h9 => h9) d_AckBookModel_came_131 (fun r26 h => ?_)
                  refine lv_iload_n hC.1 hC.2.1 d_AckBookModel_came_134 rfl (lv_at hl 2 rfl) ?_
                  refine x_ldZ hC hZ h d_AckBookModel_came_135 (fun v27 h => ?_)
                  refine lv_if_ne (tgt := 148) hC.1 hC.2.1 d_AckBookModel_came_136 (by decide) (fun hc => ?_) (fun hc => ?_)
                  · have h := z_ifn hc h
                    refine lv_iconst (v := (1 : Int32)) hC.1 hC.2.1 d_AckBookModel_came_148 (by decide) ?_
                    refine lv_goto (tgt := 153) hC.1 hC.2.1 d_AckBookModel_came_149 (by decide) ?_
                    refine x_stZ hC hZ h d_AckBookModel_came_153 (fun w H locs hZ h => ?_)
                    refine lv_iconst (v := (1 : Int32)) hC.1 hC.2.1 d_AckBookModel_came_154 (by decide) ?_
                    exact x_iret hC hRc hRs hZ hr rfl h d_AckBookModel_came_155
                  · have h := z_ifp hc h
                    refine lv_lload_n hC.1 hC.2.1 d_AckBookModel_came_139 rfl (lv_at hl 3 rfl) ?_
                    refine lv_lload hC.1 hC.2.1 d_AckBookModel_came_140 (lv_at hl 0 rfl) ?_
                    refine lv_lconst (v := (1 : Int64)) hC.1 hC.2.1 d_AckBookModel_came_142 (by decide) ?_
                    refine lv_ladd hC.1 hC.2.1 d_AckBookModel_came_143 ?_
                    refine W.lcmp hC.1 hC.2.1 d_AckBookModel_came_144 ?_
                    refine lv_if_eq (tgt := 152) hC.1 hC.2.1 d_AckBookModel_came_145 (by decide) (fun hc => ?_) (fun hc => ?_)
                    · have h := z_ifp hc h
                      refine lv_iconst (v := (0 : Int32)) hC.1 hC.2.1 d_AckBookModel_came_152 (by decide) ?_
                      refine x_stZ hC hZ h d_AckBookModel_came_153 (fun w H locs hZ h => ?_)
                      refine lv_iconst (v := (1 : Int32)) hC.1 hC.2.1 d_AckBookModel_came_154 (by decide) ?_
                      exact x_iret hC hRc hRs hZ hr rfl h d_AckBookModel_came_155
                    · have h := z_ifn hc h
                      refine lv_iconst (v := (1 : Int32)) hC.1 hC.2.1 d_AckBookModel_came_148 (by decide) ?_
                      refine lv_goto (tgt := 153) hC.1 hC.2.1 d_AckBookModel_came_149 (by decide) ?_
                      refine x_stZ hC hZ h d_AckBookModel_came_153 (fun w H locs hZ h => ?_)
                      refine lv_iconst (v := (1 : Int32)) hC.1 hC.2.1 d_AckBookModel_came_154 (by decide) ?_
                      exact x_iret hC hRc hRs hZ hr rfl h d_AckBookModel_came_155
                · have h := z_ifp hc h
                  refine x_aload_n hC d_AckBookModel_came_105 rfl (lv_at hl 1 rfl) ?_
                  refine x_getR hC hZ zc10 h (by decide) t_855 (fun _ h9 => h9) d_AckBookModel_came_106 (fun r16 h => ?_)
                  refine lv_iload_n hC.1 hC.2.1 d_AckBookModel_came_109 rfl (lv_at hl 2 rfl) ?_
                  refine x_aload_n hC d_AckBookModel_came_110 rfl (lv_at hl 1 rfl) ?_
                  refine x_getI hC hZ zc10 h (by decide) t_820 (fun _ h9 => h9) d_AckBookModel_came_111 (fun v17 h => ?_)
                  refine x_stI hC hZ h d_AckBookModel_came_114 (fun w H locs hZ h => ?_)
                  refine x_aload_n hC d_AckBookModel_came_115 rfl (lv_at hl 1 rfl) ?_
                  refine x_getR hC hZ zc10 h (by decide) t_854 (fun _ h9 => h9) d_AckBookModel_came_116 (fun r18 h => ?_)
                  refine lv_iload_n hC.1 hC.2.1 d_AckBookModel_came_119 rfl (lv_at hl 2 rfl) ?_
                  refine lv_dup2_11 hC.1 hC.2.1 d_AckBookModel_came_120 rfl (z_rfc _) ?_
                  refine x_ldI hC hZ h d_AckBookModel_came_121 (fun v19 h => ?_)
                  refine lv_iconst (v := (1 : Int32)) hC.1 hC.2.1 d_AckBookModel_came_122 (by decide) ?_
                  refine lv_iadd hC.1 hC.2.1 d_AckBookModel_came_123 ?_
                  refine x_stI hC hZ h d_AckBookModel_came_124 (fun w H locs hZ h => ?_)
                  refine x_aload_n hC d_AckBookModel_came_125 rfl (lv_at hl 1 rfl) ?_
                  refine x_getR hC hZ zc10 h (by decide) t_856 (fun _ h9 => h9) d_AckBookModel_came_126 (fun r20 h => ?_)
                  refine lv_iload_n hC.1 hC.2.1 d_AckBookModel_came_129 rfl (lv_at hl 2 rfl) ?_
                  refine x_aload_n hC d_AckBookModel_came_130 rfl (lv_at hl 1 rfl) ?_
                  refine x_getR hC hZ zc10 h (by decide) t_856 (fun _ h9 => h9) d_AckBookModel_came_131 (fun r21 h => ?_)
                  refine lv_iload_n hC.1 hC.2.1 d_AckBookModel_came_134 rfl (lv_at hl 2 rfl) ?_
                  refine x_ldZ hC hZ h d_AckBookModel_came_135 (fun v22 h => ?_)
                  refine lv_if_ne (tgt := 148) hC.1 hC.2.1 d_AckBookModel_came_136 (by decide) (fun hc => ?_) (fun hc => ?_)
                  · have h := z_ifn hc h
                    refine lv_iconst (v := (1 : Int32)) hC.1 hC.2.1 d_AckBookModel_came_148 (by decide) ?_
                    refine lv_goto (tgt := 153) hC.1 hC.2.1 d_AckBookModel_came_149 (by decide) ?_
                    refine x_stZ hC hZ h d_AckBookModel_came_153 (fun w H locs hZ h => ?_)
                    refine lv_iconst (v := (1 : Int32)) hC.1 hC.2.1 d_AckBookModel_came_154 (by decide) ?_
                    exact x_iret hC hRc hRs hZ hr rfl h d_AckBookModel_came_155
                  · have h := z_ifp hc h
                    refine lv_lload_n hC.1 hC.2.1 d_AckBookModel_came_139 rfl (lv_at hl 3 rfl) ?_
                    refine lv_lload hC.1 hC.2.1 d_AckBookModel_came_140 (lv_at hl 0 rfl) ?_
                    refine lv_lconst (v := (1 : Int64)) hC.1 hC.2.1 d_AckBookModel_came_142 (by decide) ?_
                    refine lv_ladd hC.1 hC.2.1 d_AckBookModel_came_143 ?_
                    refine W.lcmp hC.1 hC.2.1 d_AckBookModel_came_144 ?_
                    refine lv_if_eq (tgt := 152) hC.1 hC.2.1 d_AckBookModel_came_145 (by decide) (fun hc => ?_) (fun hc => ?_)
                    · have h := z_ifp hc h
                      refine lv_iconst (v := (0 : Int32)) hC.1 hC.2.1 d_AckBookModel_came_152 (by decide) ?_
                      refine x_stZ hC hZ h d_AckBookModel_came_153 (fun w H locs hZ h => ?_)
                      refine lv_iconst (v := (1 : Int32)) hC.1 hC.2.1 d_AckBookModel_came_154 (by decide) ?_
                      exact x_iret hC hRc hRs hZ hr rfl h d_AckBookModel_came_155
                    · have h := z_ifn hc h
                      refine lv_iconst (v := (1 : Int32)) hC.1 hC.2.1 d_AckBookModel_came_148 (by decide) ?_
                      refine lv_goto (tgt := 153) hC.1 hC.2.1 d_AckBookModel_came_149 (by decide) ?_
                      refine x_stZ hC hZ h d_AckBookModel_came_153 (fun w H locs hZ h => ?_)
                      refine lv_iconst (v := (1 : Int32)) hC.1 hC.2.1 d_AckBookModel_came_154 (by decide) ?_
                      exact x_iret hC hRc hRs hZ hr rfl h d_AckBookModel_came_155
              · have h := z_ifp hc h
                refine lv_iconst (v := (1 : Int32)) hC.1 hC.2.1 d_AckBookModel_came_94 (by decide) ?_
                exact x_iret hC hRc hRs hZ hr rfl h d_AckBookModel_came_95
            · have h := z_ifn hc h
              refine x_aload_n hC d_AckBookModel_came_73 rfl (lv_at hl 1 rfl) ?_
              refine x_getR hC hZ zc10 h (by decide) t_853 (fun _ h9 => h9) d_AckBookModel_came_74 (fun r28 h => ?_)
              refine lv_iload_n hC.1 hC.2.1 d_AckBookModel_came_77 rfl (lv_at hl 2 rfl) ?_
              refine x_aload_n hC d_AckBookModel_came_78 rfl (lv_at hl 1 rfl) ?_
              refine x_getI hC hZ zc10 h (by decide) t_820 (fun _ h9 => h9) d_AckBookModel_came_79 (fun v29 h => ?_)
              refine x_stI hC hZ h d_AckBookModel_came_82 (fun w H locs hZ h => ?_)
              refine x_aload_n hC d_AckBookModel_came_83 rfl (lv_at hl 1 rfl) ?_
              refine lv_iload_n hC.1 hC.2.1 d_AckBookModel_came_84 rfl (lv_at hl 2 rfl) ?_
              refine lv_lload_n hC.1 hC.2.1 d_AckBookModel_came_85 rfl (lv_at hl 3 rfl) ?_
              obtain ⟨a_, fs_, eo_, h⟩ := z_this_spec h
              obtain ⟨w1_, o1_, hF_, ha_⟩ := z_cV_spec h
              refine x_goes hC hRc hRs hFr ha_ (z_goV (As := [.int pI1, .long pJ2]) hC hZ zc10 eo_ (k_AckBookModel_comeIn hT hfl hE _ _ hF_) t_1062 t_1064 ts_AckBookModel_comeIn t_12 t_1065 ⟨by decide, by decide, (by decide +kernel : (parseMethodDescriptor y_AckBookModel_comeIn.desc).map (fun d => d.parameters.length) = some 2)⟩ (by rw [hRt.1]; decide) (by rw [hRt.2]; decide) hl.1 rfl (by first | exact Nat.le_of_ble_eq_true rfl | simp [z_rfc, z_ci, z_cj]) d_AckBookModel_came_86) (fun v_ hv H locs cells slots hZ => ?_)
              obtain ⟨rfl, h⟩ := hv
              generalize w1_ = w at h hZ
              refine lv_iload hC.1 hC.2.1 d_AckBookModel_came_89 (lv_at hl 4 rfl) ?_
              refine lv_if_ne (tgt := 96) hC.1 hC.2.1 d_AckBookModel_came_91 (by decide) (fun hc => ?_) (fun hc => ?_)
              · have h := z_ifn hc h
                refine x_aload_n hC d_AckBookModel_came_96 rfl (lv_at hl 1 rfl) ?_
                refine x_getR hC hZ zc10 h (by decide) t_854 (fun _ h9 => h9) d_AckBookModel_came_97 (fun r31 h => ?_)
                refine lv_iload_n hC.1 hC.2.1 d_AckBookModel_came_100 rfl (lv_at hl 2 rfl) ?_
                refine x_ldI hC hZ h d_AckBookModel_came_101 (fun v32 h => ?_)
                refine lv_if_ne (tgt := 115) hC.1 hC.2.1 d_AckBookModel_came_102 (by decide) (fun hc => ?_) (fun hc => ?_)
                · have h := z_ifn hc h
                  refine x_aload_n hC d_AckBookModel_came_115 rfl (lv_at hl 1 rfl) ?_
                  refine x_getR hC hZ zc10 h (by decide) t_854 (fun _ h9 => h9) d_AckBookModel_came_116 (fun r40 h => ?_)
                  refine lv_iload_n hC.1 hC.2.1 d_AckBookModel_came_119 rfl (lv_at hl 2 rfl) ?_
                  refine lv_dup2_11 hC.1 hC.2.1 d_AckBookModel_came_120 rfl (z_rfc _) ?_
                  refine x_ldI hC hZ h d_AckBookModel_came_121 (fun v41 h => ?_)
                  refine lv_iconst (v := (1 : Int32)) hC.1 hC.2.1 d_AckBookModel_came_122 (by decide) ?_
                  refine lv_iadd hC.1 hC.2.1 d_AckBookModel_came_123 ?_
                  refine x_stI hC hZ h d_AckBookModel_came_124 (fun w H locs hZ h => ?_)
                  refine x_aload_n hC d_AckBookModel_came_125 rfl (lv_at hl 1 rfl) ?_
                  refine x_getR hC hZ zc10 h (by decide) t_856 (fun _ h9 => h9) d_AckBookModel_came_126 (fun r42 h => ?_)
                  refine lv_iload_n hC.1 hC.2.1 d_AckBookModel_came_129 rfl (lv_at hl 2 rfl) ?_
                  refine x_aload_n hC d_AckBookModel_came_130 rfl (lv_at hl 1 rfl) ?_
                  refine x_getR hC hZ zc10 h (by decide) t_856 (fun _ h9 => h9) d_AckBookModel_came_131 (fun r43 h => ?_)
                  refine lv_iload_n hC.1 hC.2.1 d_AckBookModel_came_134 rfl (lv_at hl 2 rfl) ?_
                  refine x_ldZ hC hZ h d_AckBookModel_came_135 (fun v44 h => ?_)
                  refine lv_if_ne (tgt := 148) hC.1 hC.2.1 d_AckBookModel_came_136 (by decide) (fun hc => ?_) (fun hc => ?_)
                  · have h := z_ifn hc h
                    refine lv_iconst (v := (1 : Int32)) hC.1 hC.2.1 d_AckBookModel_came_148 (by decide) ?_
                    refine lv_goto (tgt := 153) hC.1 hC.2.1 d_AckBookModel_came_149 (by decide) ?_
                    refine x_stZ hC hZ h d_AckBookModel_came_153 (fun w H locs hZ h => ?_)
                    refine lv_iconst (v := (1 : Int32)) hC.1 hC.2.1 d_AckBookModel_came_154 (by decide) ?_
                    exact x_iret hC hRc hRs hZ hr rfl h d_AckBookModel_came_155
                  · have h := z_ifp hc h
                    refine lv_lload_n hC.1 hC.2.1 d_AckBookModel_came_139 rfl (lv_at hl 3 rfl) ?_
                    refine lv_lload hC.1 hC.2.1 d_AckBookModel_came_140 (lv_at hl 0 rfl) ?_
                    refine lv_lconst (v := (1 : Int64)) hC.1 hC.2.1 d_AckBookModel_came_142 (by decide) ?_
                    refine lv_ladd hC.1 hC.2.1 d_AckBookModel_came_143 ?_
                    refine W.lcmp hC.1 hC.2.1 d_AckBookModel_came_144 ?_
                    refine lv_if_eq (tgt := 152) hC.1 hC.2.1 d_AckBookModel_came_145 (by decide) (fun hc => ?_) (fun hc => ?_)
                    · have h := z_ifp hc h
                      refine lv_iconst (v := (0 : Int32)) hC.1 hC.2.1 d_AckBookModel_came_152 (by decide) ?_
                      refine x_stZ hC hZ h d_AckBookModel_came_153 (fun w H locs hZ h => ?_)
                      refine lv_iconst (v := (1 : Int32)) hC.1 hC.2.1 d_AckBookModel_came_154 (by decide) ?_
                      exact x_iret hC hRc hRs hZ hr rfl h d_AckBookModel_came_155
                    · have h := z_ifn hc h
                      refine lv_iconst (v := (1 : Int32)) hC.1 hC.2.1 d_AckBookModel_came_148 (by decide) ?_
                      refine lv_goto (tgt := 153) hC.1 hC.2.1 d_AckBookModel_came_149 (by decide) ?_
                      refine x_stZ hC hZ h d_AckBookModel_came_153 (fun w H locs hZ h => ?_)
                      refine lv_iconst (v := (1 : Int32)) hC.1 hC.2.1 d_AckBookModel_came_154 (by decide) ?_
                      exact x_iret hC hRc hRs hZ hr rfl h d_AckBookModel_came_155
                · have h := z_ifp hc h
                  refine x_aload_n hC d_AckBookModel_came_105 rfl (lv_at hl 1 rfl) ?_
                  refine x_getR hC hZ zc10 h (by decide) t_855 (fun _ h9 => h9) d_AckBookModel_came_106 (fun r33 h => ?_)
                  refine lv_iload_n hC.1 hC.2.1 d_AckBookModel_came_109 rfl (lv_at hl 2 rfl) ?_
                  refine x_aload_n hC d_AckBookModel_came_110 rfl (lv_at hl 1 rfl) ?_
                  refine x_getI hC hZ zc10 h (by decide) t_820 (fun _ h9 => h9) d_AckBookModel_came_111 (fun v34 h => ?_)
                  refine x_stI hC hZ h d_AckBookModel_came_114 (fun w H locs hZ h => ?_)
                  refine x_aload_n hC d_AckBookModel_came_115 rfl (lv_at hl 1 rfl) ?_
                  refine x_getR hC hZ zc10 h (by decide) t_854 (fun _ h9 => h9) d_AckBookModel_came_116 (fun r35 h => ?_)
                  refine lv_iload_n hC.1 hC.2.1 d_AckBookModel_came_119 rfl (lv_at hl 2 rfl) ?_
                  refine lv_dup2_11 hC.1 hC.2.1 d_AckBookModel_came_120 rfl (z_rfc _) ?_
                  refine x_ldI hC hZ h d_AckBookModel_came_121 (fun v36 h => ?_)
                  refine lv_iconst (v := (1 : Int32)) hC.1 hC.2.1 d_AckBookModel_came_122 (by decide) ?_
                  refine lv_iadd hC.1 hC.2.1 d_AckBookModel_came_123 ?_
                  refine x_stI hC hZ h d_AckBookModel_came_124 (fun w H locs hZ h => ?_)
                  refine x_aload_n hC d_AckBookModel_came_125 rfl (lv_at hl 1 rfl) ?_
                  refine x_getR hC hZ zc10 h (by decide) t_856 (fun _ h9 => h9) d_AckBookModel_came_126 (fun r37 h => ?_)
                  refine lv_iload_n hC.1 hC.2.1 d_AckBookModel_came_129 rfl (lv_at hl 2 rfl) ?_
                  refine x_aload_n hC d_AckBookModel_came_130 rfl (lv_at hl 1 rfl) ?_
                  refine x_getR hC hZ zc10 h (by decide) t_856 (fun _ h9 => h9) d_AckBookModel_came_131 (fun r38 h => ?_)
                  refine lv_iload_n hC.1 hC.2.1 d_AckBookModel_came_134 rfl (lv_at hl 2 rfl) ?_
                  refine x_ldZ hC hZ h d_AckBookModel_came_135 (fun v39 h => ?_)
                  refine lv_if_ne (tgt := 148) hC.1 hC.2.1 d_AckBookModel_came_136 (by decide) (fun hc => ?_) (fun hc => ?_)
                  · have h := z_ifn hc h
                    refine lv_iconst (v := (1 : Int32)) hC.1 hC.2.1 d_AckBookModel_came_148 (by decide) ?_
                    refine lv_goto (tgt := 153) hC.1 hC.2.1 d_AckBookModel_came_149 (by decide) ?_
                    refine x_stZ hC hZ h d_AckBookModel_came_153 (fun w H locs hZ h => ?_)
                    refine lv_iconst (v := (1 : Int32)) hC.1 hC.2.1 d_AckBookModel_came_154 (by decide) ?_
                    exact x_iret hC hRc hRs hZ hr rfl h d_AckBookModel_came_155
                  · have h := z_ifp hc h
                    refine lv_lload_n hC.1 hC.2.1 d_AckBookModel_came_139 rfl (lv_at hl 3 rfl) ?_
                    refine lv_lload hC.1 hC.2.1 d_AckBookModel_came_140 (lv_at hl 0 rfl) ?_
                    refine lv_lconst (v := (1 : Int64)) hC.1 hC.2.1 d_AckBookModel_came_142 (by decide) ?_
                    refine lv_ladd hC.1 hC.2.1 d_AckBookModel_came_143 ?_
                    refine W.lcmp hC.1 hC.2.1 d_AckBookModel_came_144 ?_
                    refine lv_if_eq (tgt := 152) hC.1 hC.2.1 d_AckBookModel_came_145 (by decide) (fun hc => ?_) (fun hc => ?_)
                    · have h := z_ifp hc h
                      refine lv_iconst (v := (0 : Int32)) hC.1 hC.2.1 d_AckBookModel_came_152 (by decide) ?_
                      refine x_stZ hC hZ h d_AckBookModel_came_153 (fun w H locs hZ h => ?_)
                      refine lv_iconst (v := (1 : Int32)) hC.1 hC.2.1 d_AckBookModel_came_154 (by decide) ?_
                      exact x_iret hC hRc hRs hZ hr rfl h d_AckBookModel_came_155
                    · have h := z_ifn hc h
                      refine lv_iconst (v := (1 : Int32)) hC.1 hC.2.1 d_AckBookModel_came_148 (by decide) ?_
                      refine lv_goto (tgt := 153) hC.1 hC.2.1 d_AckBookModel_came_149 (by decide) ?_
                      refine x_stZ hC hZ h d_AckBookModel_came_153 (fun w H locs hZ h => ?_)
                      refine lv_iconst (v := (1 : Int32)) hC.1 hC.2.1 d_AckBookModel_came_154 (by decide) ?_
                      exact x_iret hC hRc hRs hZ hr rfl h d_AckBookModel_came_155
              · have h := z_ifp hc h
                refine lv_iconst (v := (1 : Int32)) hC.1 hC.2.1 d_AckBookModel_came_94 (by decide) ?_
                exact x_iret hC hRc hRs hZ hr rfl h d_AckBookModel_came_95
          · have h := z_ifn hc h
            refine lv_iconst (v := (0 : Int32)) hC.1 hC.2.1 d_AckBookModel_came_57 (by decide) ?_
            exact x_iret hC hRc hRs hZ hr rfl h d_AckBookModel_came_58
    · have h := z_ifn hc h
      refine lv_lload_n hC.1 hC.2.1 d_AckBookModel_came_14 rfl (lv_at hl 2 rfl) ?_
      refine lv_ldc2 (v := (4611686018427387903 : Int64)) hC.1 hC.2.1 hC.2.2.2.1 ((hZ.1.tb hC.2.2.2.2.2.2 args) _ t_1052) d_AckBookModel_came_15 ?_
      refine W.lcmp hC.1 hC.2.1 d_AckBookModel_came_18 ?_
      refine lv_if_le (tgt := 26) hC.1 hC.2.1 d_AckBookModel_came_19 (by decide) (fun hc => ?_) (fun hc => ?_)
      · have h := z_ifp hc h
        refine lv_iconst (v := (0 : Int32)) hC.1 hC.2.1 d_AckBookModel_came_26 (by decide) ?_
        refine lv_iconst (v := (1 : Int32)) hC.1 hC.2.1 d_AckBookModel_came_27 (by decide) ?_
        obtain ⟨a_, fs_, eo_, h⟩ := z_this_spec h
        obtain ⟨w1_, o1_, hF_, ha_⟩ := z_cI_spec h
        refine x_goes hC hRc hRs hFr ha_ (z_goV (As := [.int (0 : Int32), .int (1 : Int32)]) hC hZ zc10 eo_ (k_AckBookModel_fails hT hfl hE _ _ hF_) t_947 t_949 ts_AckBookModel_fails t_12 t_950 ⟨by decide, by decide, (by decide +kernel : (parseMethodDescriptor y_AckBookModel_fails.desc).map (fun d => d.parameters.length) = some 2)⟩ (by rw [hRt.1]; decide) (by rw [hRt.2]; decide) hl.1 rfl (by first | exact Nat.le_of_ble_eq_true rfl | simp [z_rfc, z_ci, z_cj]) d_AckBookModel_came_28) (fun v_ hv H locs cells slots hZ => ?_)
        obtain ⟨v46, rfl, h⟩ := hv
        generalize w1_ = w at h hZ
        refine lv_if_ne (tgt := 57) hC.1 hC.2.1 d_AckBookModel_came_31 (by decide) (fun hc => ?_) (fun hc => ?_)
        · have h := z_ifn hc h
          refine lv_iconst (v := (0 : Int32)) hC.1 hC.2.1 d_AckBookModel_came_57 (by decide) ?_
          exact x_iret hC hRc hRs hZ hr rfl h d_AckBookModel_came_58
        · have h := z_ifp hc h
          refine x_aload_n hC d_AckBookModel_came_34 rfl (lv_at hl 0 rfl) ?_
          refine x_aload_n hC d_AckBookModel_came_35 rfl (lv_at hl 0 rfl) ?_
          refine x_getR hC hZ zc10 h (by decide) t_830 (fun _ h9 => h9) d_AckBookModel_came_36 (fun r47 h => ?_)
          refine lv_iload_n hC.1 hC.2.1 d_AckBookModel_came_39 rfl (lv_at hl 1 rfl) ?_
          refine x_ldZ hC hZ h d_AckBookModel_came_40 (fun v48 h => ?_)
          refine lv_iconst (v := (2 : Int32)) hC.1 hC.2.1 d_AckBookModel_came_41 (by decide) ?_
          obtain ⟨a_, fs_, eo_, h⟩ := z_this_spec h
          obtain ⟨w1_, o1_, hF_, ha_⟩ := z_cI_spec h
          refine x_goes hC hRc hRs hFr ha_ (z_goV (As := [.int v48, .int (2 : Int32)]) hC hZ zc10 eo_ (k_AckBookModel_fails hT hfl hE _ _ hF_) t_947 t_949 ts_AckBookModel_fails t_12 t_950 ⟨by decide, by decide, (by decide +kernel : (parseMethodDescriptor y_AckBookModel_fails.desc).map (fun d => d.parameters.length) = some 2)⟩ (by rw [hRt.1]; decide) (by rw [hRt.2]; decide) hl.1 rfl (by first | exact Nat.le_of_ble_eq_true rfl | simp [z_rfc, z_ci, z_cj]) d_AckBookModel_came_42) (fun v_ hv H locs cells slots hZ => ?_)
          obtain ⟨v50, rfl, h⟩ := hv
          generalize w1_ = w at h hZ
          refine lv_if_ne (tgt := 57) hC.1 hC.2.1 d_AckBookModel_came_45 (by decide) (fun hc => ?_) (fun hc => ?_)
          · have h := z_ifn hc h
            refine lv_iconst (v := (0 : Int32)) hC.1 hC.2.1 d_AckBookModel_came_57 (by decide) ?_
            exact x_iret hC hRc hRs hZ hr rfl h d_AckBookModel_came_58
          · have h := z_ifp hc h
            refine x_aload_n hC d_AckBookModel_came_48 rfl (lv_at hl 0 rfl) ?_
            refine lv_iload_n hC.1 hC.2.1 d_AckBookModel_came_49 rfl (lv_at hl 1 rfl) ?_
            refine lv_lload_n hC.1 hC.2.1 d_AckBookModel_came_50 rfl (lv_at hl 2 rfl) ?_
            obtain ⟨a_, fs_, eo_, h⟩ := z_this_spec h
            obtain ⟨w1_, o1_, hF_, ha_⟩ := z_cI_spec h
            refine x_goes hC hRc hRs hFr ha_ (z_goV (As := [.int pI1, .long pJ2]) hC hZ zc10 eo_ (k_AckBookModel_isOld hT hfl hE _ _ hF_) t_1053 t_1055 ts_AckBookModel_isOld t_12 t_1056 ⟨by decide, by decide, (by decide +kernel : (parseMethodDescriptor y_AckBookModel_isOld.desc).map (fun d => d.parameters.length) = some 2)⟩ (by rw [hRt.1]; decide) (by rw [hRt.2]; decide) hl.1 rfl (by first | exact Nat.le_of_ble_eq_true rfl | simp [z_rfc, z_ci, z_cj]) d_AckBookModel_came_51) (fun v_ hv H locs cells slots hZ => ?_)
            obtain ⟨v52, rfl, h⟩ := hv
            generalize w1_ = w at h hZ
            refine lv_if_eq (tgt := 59) hC.1 hC.2.1 d_AckBookModel_came_54 (by decide) (fun hc => ?_) (fun hc => ?_)
            · have h := z_ifp hc h
              refine x_aload_n hC d_AckBookModel_came_59 rfl (lv_at hl 0 rfl) ?_
              refine lv_iload_n hC.1 hC.2.1 d_AckBookModel_came_60 rfl (lv_at hl 1 rfl) ?_
              obtain ⟨a_, fs_, eo_, h⟩ := z_this_spec h
              obtain ⟨w1_, o1_, hF_, ha_⟩ := z_cL_spec h
              refine x_goes hC hRc hRs hFr ha_ (z_goV (As := [.int pI1]) hC hZ zc10 eo_ (k_AckBookModel_greatest hT hfl hE _ _ hF_) t_1057 t_1059 ts_AckBookModel_greatest t_12 t_1060 ⟨by decide, by decide, (by decide +kernel : (parseMethodDescriptor y_AckBookModel_greatest.desc).map (fun d => d.parameters.length) = some 1)⟩ (by rw [hRt.1]; decide) (by rw [hRt.2]; decide) hl.1 rfl (by first | exact Nat.le_of_ble_eq_true rfl | simp [z_rfc, z_ci, z_cj]) d_AckBookModel_came_61) (fun v_ hv H locs cells slots hZ => ?_)
              obtain ⟨v54, rfl, h⟩ := hv
              generalize w1_ = w at h hZ
              refine lv_lstore (i := 5) (lv' := [(5, .long v54), (0, va_rf a0), (1, .int pI1), (2, .long pJ2), (4, .int pI3)]) hC.1 hC.2.1 d_AckBookModel_came_64 hl (by decide) (by first | rfl | simp [z_rfc, z_ci, z_cj]) (fun ls hl => ?_)
              refine lv_lload_n hC.1 hC.2.1 d_AckBookModel_came_66 rfl (lv_at hl 3 rfl) ?_
              refine lv_lload hC.1 hC.2.1 d_AckBookModel_came_67 (lv_at hl 0 rfl) ?_
              refine W.lcmp hC.1 hC.2.1 d_AckBookModel_came_69 ?_
              refine lv_if_le (tgt := 83) hC.1 hC.2.1 d_AckBookModel_came_70 (by decide) (fun hc => ?_) (fun hc => ?_)
              · have h := z_ifp hc h
                refine x_aload_n hC d_AckBookModel_came_83 rfl (lv_at hl 1 rfl) ?_
                refine lv_iload_n hC.1 hC.2.1 d_AckBookModel_came_84 rfl (lv_at hl 2 rfl) ?_
                refine lv_lload_n hC.1 hC.2.1 d_AckBookModel_came_85 rfl (lv_at hl 3 rfl) ?_
                obtain ⟨a_, fs_, eo_, h⟩ := z_this_spec h
                obtain ⟨w1_, o1_, hF_, ha_⟩ := z_cV_spec h
                refine x_goes hC hRc hRs hFr ha_ (z_goV (As := [.int pI1, .long pJ2]) hC hZ zc10 eo_ (k_AckBookModel_comeIn hT hfl hE _ _ hF_) t_1062 t_1064 ts_AckBookModel_comeIn t_12 t_1065 ⟨by decide, by decide, (by decide +kernel : (parseMethodDescriptor y_AckBookModel_comeIn.desc).map (fun d => d.parameters.length) = some 2)⟩ (by rw [hRt.1]; decide) (by rw [hRt.2]; decide) hl.1 rfl (by first | exact Nat.le_of_ble_eq_true rfl | simp [z_rfc, z_ci, z_cj]) d_AckBookModel_came_86) (fun v_ hv H locs cells slots hZ => ?_)
                obtain ⟨rfl, h⟩ := hv
                generalize w1_ = w at h hZ
                refine lv_iload hC.1 hC.2.1 d_AckBookModel_came_89 (lv_at hl 4 rfl) ?_
                refine lv_if_ne (tgt := 96) hC.1 hC.2.1 d_AckBookModel_came_91 (by decide) (fun hc => ?_) (fun hc => ?_)
                · have h := z_ifn hc h
                  refine x_aload_n hC d_AckBookModel_came_96 rfl (lv_at hl 1 rfl) ?_
                  refine x_getR hC hZ zc10 h (by decide) t_854 (fun _ h9 => h9) d_AckBookModel_came_97 (fun r56 h => ?_)
                  refine lv_iload_n hC.1 hC.2.1 d_AckBookModel_came_100 rfl (lv_at hl 2 rfl) ?_
                  refine x_ldI hC hZ h d_AckBookModel_came_101 (fun v57 h => ?_)
                  refine lv_if_ne (tgt := 115) hC.1 hC.2.1 d_AckBookModel_came_102 (by decide) (fun hc => ?_) (fun hc => ?_)
                  · have h := z_ifn hc h
                    refine x_aload_n hC d_AckBookModel_came_115 rfl (lv_at hl 1 rfl) ?_
                    refine x_getR hC hZ zc10 h (by decide) t_854 (fun _ h9 => h9) d_AckBookModel_came_116 (fun r65 h => ?_)
                    refine lv_iload_n hC.1 hC.2.1 d_AckBookModel_came_119 rfl (lv_at hl 2 rfl) ?_
                    refine lv_dup2_11 hC.1 hC.2.1 d_AckBookModel_came_120 rfl (z_rfc _) ?_
                    refine x_ldI hC hZ h d_AckBookModel_came_121 (fun v66 h => ?_)
                    refine lv_iconst (v := (1 : Int32)) hC.1 hC.2.1 d_AckBookModel_came_122 (by decide) ?_
                    refine lv_iadd hC.1 hC.2.1 d_AckBookModel_came_123 ?_
                    refine x_stI hC hZ h d_AckBookModel_came_124 (fun w H locs hZ h => ?_)
                    refine x_aload_n hC d_AckBookModel_came_125 rfl (lv_at hl 1 rfl) ?_
                    refine x_getR hC hZ zc10 h (by decide) t_856 (fun _ h9 => h9) d_AckBookModel_came_126 (fun r67 h => ?_)
                    refine lv_iload_n hC.1 hC.2.1 d_AckBookModel_came_129 rfl (lv_at hl 2 rfl) ?_
                    refine x_aload_n hC d_AckBookModel_came_130 rfl (lv_at hl 1 rfl) ?_
                    refine x_getR hC hZ zc10 h (by decide) t_856 (fun _ h9 => h9) d_AckBookModel_came_131 (fun r68 h => ?_)
                    refine lv_iload_n hC.1 hC.2.1 d_AckBookModel_came_134 rfl (lv_at hl 2 rfl) ?_
                    refine x_ldZ hC hZ h d_AckBookModel_came_135 (fun v69 h => ?_)
                    refine lv_if_ne (tgt := 148) hC.1 hC.2.1 d_AckBookModel_came_136 (by decide) (fun hc => ?_) (fun hc => ?_)
                    · have h := z_ifn hc h
                      refine lv_iconst (v := (1 : Int32)) hC.1 hC.2.1 d_AckBookModel_came_148 (by decide) ?_
                      refine lv_goto (tgt := 153) hC.1 hC.2.1 d_AckBookModel_came_149 (by decide) ?_
                      refine x_stZ hC hZ h d_AckBookModel_came_153 (fun w H locs hZ h => ?_)
                      refine lv_iconst (v := (1 : Int32)) hC.1 hC.2.1 d_AckBookModel_came_154 (by decide) ?_
                      exact x_iret hC hRc hRs hZ hr rfl h d_AckBookModel_came_155
                    · have h := z_ifp hc h
                      refine lv_lload_n hC.1 hC.2.1 d_AckBookModel_came_139 rfl (lv_at hl 3 rfl) ?_
                      refine lv_lload hC.1 hC.2.1 d_AckBookModel_came_140 (lv_at hl 0 rfl) ?_
                      refine lv_lconst (v := (1 : Int64)) hC.1 hC.2.1 d_AckBookModel_came_142 (by decide) ?_
                      refine lv_ladd hC.1 hC.2.1 d_AckBookModel_came_143 ?_
                      refine W.lcmp hC.1 hC.2.1 d_AckBookModel_came_144 ?_
                      refine lv_if_eq (tgt := 152) hC.1 hC.2.1 d_AckBookModel_came_145 (by decide) (fun hc => ?_) (fun hc => ?_)
                      · have h := z_ifp hc h
                        refine lv_iconst (v := (0 : Int32)) hC.1 hC.2.1 d_AckBookModel_came_152 (by decide) ?_
                        refine x_stZ hC hZ h d_AckBookModel_came_153 (fun w H locs hZ h => ?_)
                        refine lv_iconst (v := (1 : Int32)) hC.1 hC.2.1 d_AckBookModel_came_154 (by decide) ?_
                        exact x_iret hC hRc hRs hZ hr rfl h d_AckBookModel_came_155
                      · have h := z_ifn hc h
                        refine lv_iconst (v := (1 : Int32)) hC.1 hC.2.1 d_AckBookModel_came_148 (by decide) ?_
                        refine lv_goto (tgt := 153) hC.1 hC.2.1 d_AckBookModel_came_149 (by decide) ?_
                        refine x_stZ hC hZ h d_AckBookModel_came_153 (fun w H locs hZ h => ?_)
                        refine lv_iconst (v := (1 : Int32)) hC.1 hC.2.1 d_AckBookModel_came_154 (by decide) ?_
                        exact x_iret hC hRc hRs hZ hr rfl h d_AckBookModel_came_155
                  · have h := z_ifp hc h
                    refine x_aload_n hC d_AckBookModel_came_105 rfl (lv_at hl 1 rfl) ?_
                    refine x_getR hC hZ zc10 h (by decide) t_855 (fun _ h9 => h9) d_AckBookModel_came_106 (fun r58 h => ?_)
                    refine lv_iload_n hC.1 hC.2.1 d_AckBookModel_came_109 rfl (lv_at hl 2 rfl) ?_
                    refine x_aload_n hC d_AckBookModel_came_110 rfl (lv_at hl 1 rfl) ?_
                    refine x_getI hC hZ zc10 h (by decide) t_820 (fun _ h9 => h9) d_AckBookModel_came_111 (fun v59 h => ?_)
                    refine x_stI hC hZ h d_AckBookModel_came_114 (fun w H locs hZ h => ?_)
                    refine x_aload_n hC d_AckBookModel_came_115 rfl (lv_at hl 1 rfl) ?_
                    refine x_getR hC hZ zc10 h (by decide) t_854 (fun _ h9 => h9) d_AckBookModel_came_116 (fun r60 h => ?_)
                    refine lv_iload_n hC.1 hC.2.1 d_AckBookModel_came_119 rfl (lv_at hl 2 rfl) ?_
                    refine lv_dup2_11 hC.1 hC.2.1 d_AckBookModel_came_120 rfl (z_rfc _) ?_
                    refine x_ldI hC hZ h d_AckBookModel_came_121 (fun v61 h => ?_)
                    refine lv_iconst (v := (1 : Int32)) hC.1 hC.2.1 d_AckBookModel_came_122 (by decide) ?_
                    refine lv_iadd hC.1 hC.2.1 d_AckBookModel_came_123 ?_
                    refine x_stI hC hZ h d_AckBookModel_came_124 (fun w H locs hZ h => ?_)
                    refine x_aload_n hC d_AckBookModel_came_125 rfl (lv_at hl 1 rfl) ?_
                    refine x_getR hC hZ zc10 h (by decide) t_856 (fun _ h9 => h9) d_AckBookModel_came_126 (fun r62 h => ?_)
                    refine lv_iload_n hC.1 hC.2.1 d_AckBookModel_came_129 rfl (lv_at hl 2 rfl) ?_
                    refine x_aload_n hC d_AckBookModel_came_130 rfl (lv_at hl 1 rfl) ?_
                    refine x_getR hC hZ zc10 h (by decide) t_856 (fun _ h9 => h9) d_AckBookModel_came_131 (fun r63 h => ?_)
                    refine lv_iload_n hC.1 hC.2.1 d_AckBookModel_came_134 rfl (lv_at hl 2 rfl) ?_
                    refine x_ldZ hC hZ h d_AckBookModel_came_135 (fun v64 h => ?_)
                    refine lv_if_ne (tgt := 148) hC.1 hC.2.1 d_AckBookModel_came_136 (by decide) (fun hc => ?_) (fun hc => ?_)
                    · have h := z_ifn hc h
                      refine lv_iconst (v := (1 : Int32)) hC.1 hC.2.1 d_AckBookModel_came_148 (by decide) ?_
                      refine lv_goto (tgt := 153) hC.1 hC.2.1 d_AckBookModel_came_149 (by decide) ?_
                      refine x_stZ hC hZ h d_AckBookModel_came_153 (fun w H locs hZ h => ?_)
                      refine lv_iconst (v := (1 : Int32)) hC.1 hC.2.1 d_AckBookModel_came_154 (by decide) ?_
                      exact x_iret hC hRc hRs hZ hr rfl h d_AckBookModel_came_155
                    · have h := z_ifp hc h
                      refine lv_lload_n hC.1 hC.2.1 d_AckBookModel_came_139 rfl (lv_at hl 3 rfl) ?_
                      refine lv_lload hC.1 hC.2.1 d_AckBookModel_came_140 (lv_at hl 0 rfl) ?_
                      refine lv_lconst (v := (1 : Int64)) hC.1 hC.2.1 d_AckBookModel_came_142 (by decide) ?_
                      refine lv_ladd hC.1 hC.2.1 d_AckBookModel_came_143 ?_
                      refine W.lcmp hC.1 hC.2.1 d_AckBookModel_came_144 ?_
                      refine lv_if_eq (tgt := 152) hC.1 hC.2.1 d_AckBookModel_came_145 (by decide) (fun hc => ?_) (fun hc => ?_)
                      · have h := z_ifp hc h
                        refine lv_iconst (v := (0 : Int32)) hC.1 hC.2.1 d_AckBookModel_came_152 (by decide) ?_
                        refine x_stZ hC hZ h d_AckBookModel_came_153 (fun w H locs hZ h => ?_)
                        refine lv_iconst (v := (1 : Int32)) hC.1 hC.2.1 d_AckBookModel_came_154 (by decide) ?_
                        exact x_iret hC hRc hRs hZ hr rfl h d_AckBookModel_came_155
                      · have h := z_ifn hc h
                        refine lv_iconst (v := (1 : Int32)) hC.1 hC.2.1 d_AckBookModel_came_148 (by decide) ?_
                        refine lv_goto (tgt := 153) hC.1 hC.2.1 d_AckBookModel_came_149 (by decide) ?_
                        refine x_stZ hC hZ h d_AckBookModel_came_153 (fun w H locs hZ h => ?_)
                        refine lv_iconst (v := (1 : Int32)) hC.1 hC.2.1 d_AckBookModel_came_154 (by decide) ?_
                        exact x_iret hC hRc hRs hZ hr rfl h d_AckBookModel_came_155
                · have h := z_ifp hc h
                  refine lv_iconst (v := (1 : Int32)) hC.1 hC.2.1 d_AckBookModel_came_94 (by decide) ?_
                  exact x_iret hC hRc hRs hZ hr rfl h d_AckBookModel_came_95
              · have h := z_ifn hc h
                refine x_aload_n hC d_AckBookModel_came_73 rfl (lv_at hl 1 rfl) ?_
                refine x_getR hC hZ zc10 h (by decide) t_853 (fun _ h9 => h9) d_AckBookModel_came_74 (fun r70 h => ?_)
                refine lv_iload_n hC.1 hC.2.1 d_AckBookModel_came_77 rfl (lv_at hl 2 rfl) ?_
                refine x_aload_n hC d_AckBookModel_came_78 rfl (lv_at hl 1 rfl) ?_
                refine x_getI hC hZ zc10 h (by decide) t_820 (fun _ h9 => h9) d_AckBookModel_came_79 (fun v71 h => ?_)
                refine x_stI hC hZ h d_AckBookModel_came_82 (fun w H locs hZ h => ?_)
                refine x_aload_n hC d_AckBookModel_came_83 rfl (lv_at hl 1 rfl) ?_
                refine lv_iload_n hC.1 hC.2.1 d_AckBookModel_came_84 rfl (lv_at hl 2 rfl) ?_
                refine lv_lload_n hC.1 hC.2.1 d_AckBookModel_came_85 rfl (lv_at hl 3 rfl) ?_
                obtain ⟨a_, fs_, eo_, h⟩ := z_this_spec h
                obtain ⟨w1_, o1_, hF_, ha_⟩ := z_cV_spec h
                refine x_goes hC hRc hRs hFr ha_ (z_goV (As := [.int pI1, .long pJ2]) hC hZ zc10 eo_ (k_AckBookModel_comeIn hT hfl hE _ _ hF_) t_1062 t_1064 ts_AckBookModel_comeIn t_12 t_1065 ⟨by decide, by decide, (by decide +kernel : (parseMethodDescriptor y_AckBookModel_comeIn.desc).map (fun d => d.parameters.length) = some 2)⟩ (by rw [hRt.1]; decide) (by rw [hRt.2]; decide) hl.1 rfl (by first | exact Nat.le_of_ble_eq_true rfl | simp [z_rfc, z_ci, z_cj]) d_AckBookModel_came_86) (fun v_ hv H locs cells slots hZ => ?_)
                obtain ⟨rfl, h⟩ := hv
                generalize w1_ = w at h hZ
                refine lv_iload hC.1 hC.2.1 d_AckBookModel_came_89 (lv_at hl 4 rfl) ?_
                refine lv_if_ne (tgt := 96) hC.1 hC.2.1 d_AckBookModel_came_91 (by decide) (fun hc => ?_) (fun hc => ?_)
                · have h := z_ifn hc h
                  refine x_aload_n hC d_AckBookModel_came_96 rfl (lv_at hl 1 rfl) ?_
                  refine x_getR hC hZ zc10 h (by decide) t_854 (fun _ h9 => h9) d_AckBookModel_came_97 (fun r73 h => ?_)
                  refine lv_iload_n hC.1 hC.2.1 d_AckBookModel_came_100 rfl (lv_at hl 2 rfl) ?_
                  refine x_ldI hC hZ h d_AckBookModel_came_101 (fun v74 h => ?_)
                  refine lv_if_ne (tgt := 115) hC.1 hC.2.1 d_AckBookModel_came_102 (by decide) (fun hc => ?_) (fun hc => ?_)
                  · have h := z_ifn hc h
                    refine x_aload_n hC d_AckBookModel_came_115 rfl (lv_at hl 1 rfl) ?_
                    refine x_getR hC hZ zc10 h (by decide) t_854 (fun _ h9 => h9) d_AckBookModel_came_116 (fun r82 h => ?_)
                    refine lv_iload_n hC.1 hC.2.1 d_AckBookModel_came_119 rfl (lv_at hl 2 rfl) ?_
                    refine lv_dup2_11 hC.1 hC.2.1 d_AckBookModel_came_120 rfl (z_rfc _) ?_
                    refine x_ldI hC hZ h d_AckBookModel_came_121 (fun v83 h => ?_)
                    refine lv_iconst (v := (1 : Int32)) hC.1 hC.2.1 d_AckBookModel_came_122 (by decide) ?_
                    refine lv_iadd hC.1 hC.2.1 d_AckBookModel_came_123 ?_
                    refine x_stI hC hZ h d_AckBookModel_came_124 (fun w H locs hZ h => ?_)
                    refine x_aload_n hC d_AckBookModel_came_125 rfl (lv_at hl 1 rfl) ?_
                    refine x_getR hC hZ zc10 h (by decide) t_856 (fun _ h9 => h9) d_AckBookModel_came_126 (fun r84 h => ?_)
                    refine lv_iload_n hC.1 hC.2.1 d_AckBookModel_came_129 rfl (lv_at hl 2 rfl) ?_
                    refine x_aload_n hC d_AckBookModel_came_130 rfl (lv_at hl 1 rfl) ?_
                    refine x_getR hC hZ zc10 h (by decide) t_856 (fun _ h9 => h9) d_AckBookModel_came_131 (fun r85 h => ?_)
                    refine lv_iload_n hC.1 hC.2.1 d_AckBookModel_came_134 rfl (lv_at hl 2 rfl) ?_
                    refine x_ldZ hC hZ h d_AckBookModel_came_135 (fun v86 h => ?_)
                    refine lv_if_ne (tgt := 148) hC.1 hC.2.1 d_AckBookModel_came_136 (by decide) (fun hc => ?_) (fun hc => ?_)
                    · have h := z_ifn hc h
                      refine lv_iconst (v := (1 : Int32)) hC.1 hC.2.1 d_AckBookModel_came_148 (by decide) ?_
                      refine lv_goto (tgt := 153) hC.1 hC.2.1 d_AckBookModel_came_149 (by decide) ?_
                      refine x_stZ hC hZ h d_AckBookModel_came_153 (fun w H locs hZ h => ?_)
                      refine lv_iconst (v := (1 : Int32)) hC.1 hC.2.1 d_AckBookModel_came_154 (by decide) ?_
                      exact x_iret hC hRc hRs hZ hr rfl h d_AckBookModel_came_155
                    · have h := z_ifp hc h
                      refine lv_lload_n hC.1 hC.2.1 d_AckBookModel_came_139 rfl (lv_at hl 3 rfl) ?_
                      refine lv_lload hC.1 hC.2.1 d_AckBookModel_came_140 (lv_at hl 0 rfl) ?_
                      refine lv_lconst (v := (1 : Int64)) hC.1 hC.2.1 d_AckBookModel_came_142 (by decide) ?_
                      refine lv_ladd hC.1 hC.2.1 d_AckBookModel_came_143 ?_
                      refine W.lcmp hC.1 hC.2.1 d_AckBookModel_came_144 ?_
                      refine lv_if_eq (tgt := 152) hC.1 hC.2.1 d_AckBookModel_came_145 (by decide) (fun hc => ?_) (fun hc => ?_)
                      · have h := z_ifp hc h
                        refine lv_iconst (v := (0 : Int32)) hC.1 hC.2.1 d_AckBookModel_came_152 (by decide) ?_
                        refine x_stZ hC hZ h d_AckBookModel_came_153 (fun w H locs hZ h => ?_)
                        refine lv_iconst (v := (1 : Int32)) hC.1 hC.2.1 d_AckBookModel_came_154 (by decide) ?_
                        exact x_iret hC hRc hRs hZ hr rfl h d_AckBookModel_came_155
                      · have h := z_ifn hc h
                        refine lv_iconst (v := (1 : Int32)) hC.1 hC.2.1 d_AckBookModel_came_148 (by decide) ?_
                        refine lv_goto (tgt := 153) hC.1 hC.2.1 d_AckBookModel_came_149 (by decide) ?_
                        refine x_stZ hC hZ h d_AckBookModel_came_153 (fun w H locs hZ h => ?_)
                        refine lv_iconst (v := (1 : Int32)) hC.1 hC.2.1 d_AckBookModel_came_154 (by decide) ?_
                        exact x_iret hC hRc hRs hZ hr rfl h d_AckBookModel_came_155
                  · have h := z_ifp hc h
                    refine x_aload_n hC d_AckBookModel_came_105 rfl (lv_at hl 1 rfl) ?_
                    refine x_getR hC hZ zc10 h (by decide) t_855 (fun _ h9 => h9) d_AckBookModel_came_106 (fun r75 h => ?_)
                    refine lv_iload_n hC.1 hC.2.1 d_AckBookModel_came_109 rfl (lv_at hl 2 rfl) ?_
                    refine x_aload_n hC d_AckBookModel_came_110 rfl (lv_at hl 1 rfl) ?_
                    refine x_getI hC hZ zc10 h (by decide) t_820 (fun _ h9 => h9) d_AckBookModel_came_111 (fun v76 h => ?_)
                    refine x_stI hC hZ h d_AckBookModel_came_114 (fun w H locs hZ h => ?_)
                    refine x_aload_n hC d_AckBookModel_came_115 rfl (lv_at hl 1 rfl) ?_
                    refine x_getR hC hZ zc10 h (by decide) t_854 (fun _ h9 => h9) d_AckBookModel_came_116 (fun r77 h => ?_)
                    refine lv_iload_n hC.1 hC.2.1 d_AckBookModel_came_119 rfl (lv_at hl 2 rfl) ?_
                    refine lv_dup2_11 hC.1 hC.2.1 d_AckBookModel_came_120 rfl (z_rfc _) ?_
                    refine x_ldI hC hZ h d_AckBookModel_came_121 (fun v78 h => ?_)
                    refine lv_iconst (v := (1 : Int32)) hC.1 hC.2.1 d_AckBookModel_came_122 (by decide) ?_
                    refine lv_iadd hC.1 hC.2.1 d_AckBookModel_came_123 ?_
                    refine x_stI hC hZ h d_AckBookModel_came_124 (fun w H locs hZ h => ?_)
                    refine x_aload_n hC d_AckBookModel_came_125 rfl (lv_at hl 1 rfl) ?_
                    refine x_getR hC hZ zc10 h (by decide) t_856 (fun _ h9 => h9) d_AckBookModel_came_126 (fun r79 h => ?_)
                    refine lv_iload_n hC.1 hC.2.1 d_AckBookModel_came_129 rfl (lv_at hl 2 rfl) ?_
                    refine x_aload_n hC d_AckBookModel_came_130 rfl (lv_at hl 1 rfl) ?_
                    refine x_getR hC hZ zc10 h (by decide) t_856 (fun _ h9 => h9) d_AckBookModel_came_131 (fun r80 h => ?_)
                    refine lv_iload_n hC.1 hC.2.1 d_AckBookModel_came_134 rfl (lv_at hl 2 rfl) ?_
                    refine x_ldZ hC hZ h d_AckBookModel_came_135 (fun v81 h => ?_)
                    refine lv_if_ne (tgt := 148) hC.1 hC.2.1 d_AckBookModel_came_136 (by decide) (fun hc => ?_) (fun hc => ?_)
                    · have h := z_ifn hc h
                      refine lv_iconst (v := (1 : Int32)) hC.1 hC.2.1 d_AckBookModel_came_148 (by decide) ?_
                      refine lv_goto (tgt := 153) hC.1 hC.2.1 d_AckBookModel_came_149 (by decide) ?_
                      refine x_stZ hC hZ h d_AckBookModel_came_153 (fun w H locs hZ h => ?_)
                      refine lv_iconst (v := (1 : Int32)) hC.1 hC.2.1 d_AckBookModel_came_154 (by decide) ?_
                      exact x_iret hC hRc hRs hZ hr rfl h d_AckBookModel_came_155
                    · have h := z_ifp hc h
                      refine lv_lload_n hC.1 hC.2.1 d_AckBookModel_came_139 rfl (lv_at hl 3 rfl) ?_
                      refine lv_lload hC.1 hC.2.1 d_AckBookModel_came_140 (lv_at hl 0 rfl) ?_
                      refine lv_lconst (v := (1 : Int64)) hC.1 hC.2.1 d_AckBookModel_came_142 (by decide) ?_
                      refine lv_ladd hC.1 hC.2.1 d_AckBookModel_came_143 ?_
                      refine W.lcmp hC.1 hC.2.1 d_AckBookModel_came_144 ?_
                      refine lv_if_eq (tgt := 152) hC.1 hC.2.1 d_AckBookModel_came_145 (by decide) (fun hc => ?_) (fun hc => ?_)
                      · have h := z_ifp hc h
                        refine lv_iconst (v := (0 : Int32)) hC.1 hC.2.1 d_AckBookModel_came_152 (by decide) ?_
                        refine x_stZ hC hZ h d_AckBookModel_came_153 (fun w H locs hZ h => ?_)
                        refine lv_iconst (v := (1 : Int32)) hC.1 hC.2.1 d_AckBookModel_came_154 (by decide) ?_
                        exact x_iret hC hRc hRs hZ hr rfl h d_AckBookModel_came_155
                      · have h := z_ifn hc h
                        refine lv_iconst (v := (1 : Int32)) hC.1 hC.2.1 d_AckBookModel_came_148 (by decide) ?_
                        refine lv_goto (tgt := 153) hC.1 hC.2.1 d_AckBookModel_came_149 (by decide) ?_
                        refine x_stZ hC hZ h d_AckBookModel_came_153 (fun w H locs hZ h => ?_)
                        refine lv_iconst (v := (1 : Int32)) hC.1 hC.2.1 d_AckBookModel_came_154 (by decide) ?_
                        exact x_iret hC hRc hRs hZ hr rfl h d_AckBookModel_came_155
                · have h := z_ifp hc h
                  refine lv_iconst (v := (1 : Int32)) hC.1 hC.2.1 d_AckBookModel_came_94 (by decide) ?_
                  exact x_iret hC hRc hRs hZ hr rfl h d_AckBookModel_came_95
            · have h := z_ifn hc h
              refine lv_iconst (v := (0 : Int32)) hC.1 hC.2.1 d_AckBookModel_came_57 (by decide) ?_
              exact x_iret hC hRc hRs hZ hr rfl h d_AckBookModel_came_58
      · have h := z_ifn hc h
        refine lv_iconst (v := (1 : Int32)) hC.1 hC.2.1 d_AckBookModel_came_22 (by decide) ?_
        refine lv_goto (tgt := 27) hC.1 hC.2.1 d_AckBookModel_came_23 (by decide) ?_
        refine lv_iconst (v := (1 : Int32)) hC.1 hC.2.1 d_AckBookModel_came_27 (by decide) ?_
        obtain ⟨a_, fs_, eo_, h⟩ := z_this_spec h
        obtain ⟨w1_, o1_, hF_, ha_⟩ := z_cI_spec h
        refine x_goes hC hRc hRs hFr ha_ (z_goV (As := [.int (1 : Int32), .int (1 : Int32)]) hC hZ zc10 eo_ (k_AckBookModel_fails hT hfl hE _ _ hF_) t_947 t_949 ts_AckBookModel_fails t_12 t_950 ⟨by decide, by decide, (by decide +kernel : (parseMethodDescriptor y_AckBookModel_fails.desc).map (fun d => d.parameters.length) = some 2)⟩ (by rw [hRt.1]; decide) (by rw [hRt.2]; decide) hl.1 rfl (by first | exact Nat.le_of_ble_eq_true rfl | simp [z_rfc, z_ci, z_cj]) d_AckBookModel_came_28) (fun v_ hv H locs cells slots hZ => ?_)
        obtain ⟨v88, rfl, h⟩ := hv
        generalize w1_ = w at h hZ
        refine lv_if_ne (tgt := 57) hC.1 hC.2.1 d_AckBookModel_came_31 (by decide) (fun hc => ?_) (fun hc => ?_)
        · have h := z_ifn hc h
          refine lv_iconst (v := (0 : Int32)) hC.1 hC.2.1 d_AckBookModel_came_57 (by decide) ?_
          exact x_iret hC hRc hRs hZ hr rfl h d_AckBookModel_came_58
        · have h := z_ifp hc h
          refine x_aload_n hC d_AckBookModel_came_34 rfl (lv_at hl 0 rfl) ?_
          refine x_aload_n hC d_AckBookModel_came_35 rfl (lv_at hl 0 rfl) ?_
          refine x_getR hC hZ zc10 h (by decide) t_830 (fun _ h9 => h9) d_AckBookModel_came_36 (fun r89 h => ?_)
          refine lv_iload_n hC.1 hC.2.1 d_AckBookModel_came_39 rfl (lv_at hl 1 rfl) ?_
          refine x_ldZ hC hZ h d_AckBookModel_came_40 (fun v90 h => ?_)
          refine lv_iconst (v := (2 : Int32)) hC.1 hC.2.1 d_AckBookModel_came_41 (by decide) ?_
          obtain ⟨a_, fs_, eo_, h⟩ := z_this_spec h
          obtain ⟨w1_, o1_, hF_, ha_⟩ := z_cI_spec h
          refine x_goes hC hRc hRs hFr ha_ (z_goV (As := [.int v90, .int (2 : Int32)]) hC hZ zc10 eo_ (k_AckBookModel_fails hT hfl hE _ _ hF_) t_947 t_949 ts_AckBookModel_fails t_12 t_950 ⟨by decide, by decide, (by decide +kernel : (parseMethodDescriptor y_AckBookModel_fails.desc).map (fun d => d.parameters.length) = some 2)⟩ (by rw [hRt.1]; decide) (by rw [hRt.2]; decide) hl.1 rfl (by first | exact Nat.le_of_ble_eq_true rfl | simp [z_rfc, z_ci, z_cj]) d_AckBookModel_came_42) (fun v_ hv H locs cells slots hZ => ?_)
          obtain ⟨v92, rfl, h⟩ := hv
          generalize w1_ = w at h hZ
          refine lv_if_ne (tgt := 57) hC.1 hC.2.1 d_AckBookModel_came_45 (by decide) (fun hc => ?_) (fun hc => ?_)
          · have h := z_ifn hc h
            refine lv_iconst (v := (0 : Int32)) hC.1 hC.2.1 d_AckBookModel_came_57 (by decide) ?_
            exact x_iret hC hRc hRs hZ hr rfl h d_AckBookModel_came_58
          · have h := z_ifp hc h
            refine x_aload_n hC d_AckBookModel_came_48 rfl (lv_at hl 0 rfl) ?_
            refine lv_iload_n hC.1 hC.2.1 d_AckBookModel_came_49 rfl (lv_at hl 1 rfl) ?_
            refine lv_lload_n hC.1 hC.2.1 d_AckBookModel_came_50 rfl (lv_at hl 2 rfl) ?_
            obtain ⟨a_, fs_, eo_, h⟩ := z_this_spec h
            obtain ⟨w1_, o1_, hF_, ha_⟩ := z_cI_spec h
            refine x_goes hC hRc hRs hFr ha_ (z_goV (As := [.int pI1, .long pJ2]) hC hZ zc10 eo_ (k_AckBookModel_isOld hT hfl hE _ _ hF_) t_1053 t_1055 ts_AckBookModel_isOld t_12 t_1056 ⟨by decide, by decide, (by decide +kernel : (parseMethodDescriptor y_AckBookModel_isOld.desc).map (fun d => d.parameters.length) = some 2)⟩ (by rw [hRt.1]; decide) (by rw [hRt.2]; decide) hl.1 rfl (by first | exact Nat.le_of_ble_eq_true rfl | simp [z_rfc, z_ci, z_cj]) d_AckBookModel_came_51) (fun v_ hv H locs cells slots hZ => ?_)
            obtain ⟨v94, rfl, h⟩ := hv
            generalize w1_ = w at h hZ
            refine lv_if_eq (tgt := 59) hC.1 hC.2.1 d_AckBookModel_came_54 (by decide) (fun hc => ?_) (fun hc => ?_)
            · have h := z_ifp hc h
              refine x_aload_n hC d_AckBookModel_came_59 rfl (lv_at hl 0 rfl) ?_
              refine lv_iload_n hC.1 hC.2.1 d_AckBookModel_came_60 rfl (lv_at hl 1 rfl) ?_
              obtain ⟨a_, fs_, eo_, h⟩ := z_this_spec h
              obtain ⟨w1_, o1_, hF_, ha_⟩ := z_cL_spec h
              refine x_goes hC hRc hRs hFr ha_ (z_goV (As := [.int pI1]) hC hZ zc10 eo_ (k_AckBookModel_greatest hT hfl hE _ _ hF_) t_1057 t_1059 ts_AckBookModel_greatest t_12 t_1060 ⟨by decide, by decide, (by decide +kernel : (parseMethodDescriptor y_AckBookModel_greatest.desc).map (fun d => d.parameters.length) = some 1)⟩ (by rw [hRt.1]; decide) (by rw [hRt.2]; decide) hl.1 rfl (by first | exact Nat.le_of_ble_eq_true rfl | simp [z_rfc, z_ci, z_cj]) d_AckBookModel_came_61) (fun v_ hv H locs cells slots hZ => ?_)
              obtain ⟨v96, rfl, h⟩ := hv
              generalize w1_ = w at h hZ
              refine lv_lstore (i := 5) (lv' := [(5, .long v96), (0, va_rf a0), (1, .int pI1), (2, .long pJ2), (4, .int pI3)]) hC.1 hC.2.1 d_AckBookModel_came_64 hl (by decide) (by first | rfl | simp [z_rfc, z_ci, z_cj]) (fun ls hl => ?_)
              refine lv_lload_n hC.1 hC.2.1 d_AckBookModel_came_66 rfl (lv_at hl 3 rfl) ?_
              refine lv_lload hC.1 hC.2.1 d_AckBookModel_came_67 (lv_at hl 0 rfl) ?_
              refine W.lcmp hC.1 hC.2.1 d_AckBookModel_came_69 ?_
              refine lv_if_le (tgt := 83) hC.1 hC.2.1 d_AckBookModel_came_70 (by decide) (fun hc => ?_) (fun hc => ?_)
              · have h := z_ifp hc h
                refine x_aload_n hC d_AckBookModel_came_83 rfl (lv_at hl 1 rfl) ?_
                refine lv_iload_n hC.1 hC.2.1 d_AckBookModel_came_84 rfl (lv_at hl 2 rfl) ?_
                refine lv_lload_n hC.1 hC.2.1 d_AckBookModel_came_85 rfl (lv_at hl 3 rfl) ?_
                obtain ⟨a_, fs_, eo_, h⟩ := z_this_spec h
                obtain ⟨w1_, o1_, hF_, ha_⟩ := z_cV_spec h
                refine x_goes hC hRc hRs hFr ha_ (z_goV (As := [.int pI1, .long pJ2]) hC hZ zc10 eo_ (k_AckBookModel_comeIn hT hfl hE _ _ hF_) t_1062 t_1064 ts_AckBookModel_comeIn t_12 t_1065 ⟨by decide, by decide, (by decide +kernel : (parseMethodDescriptor y_AckBookModel_comeIn.desc).map (fun d => d.parameters.length) = some 2)⟩ (by rw [hRt.1]; decide) (by rw [hRt.2]; decide) hl.1 rfl (by first | exact Nat.le_of_ble_eq_true rfl | simp [z_rfc, z_ci, z_cj]) d_AckBookModel_came_86) (fun v_ hv H locs cells slots hZ => ?_)
                obtain ⟨rfl, h⟩ := hv
                generalize w1_ = w at h hZ
                refine lv_iload hC.1 hC.2.1 d_AckBookModel_came_89 (lv_at hl 4 rfl) ?_
                refine lv_if_ne (tgt := 96) hC.1 hC.2.1 d_AckBookModel_came_91 (by decide) (fun hc => ?_) (fun hc => ?_)
                · have h := z_ifn hc h
                  refine x_aload_n hC d_AckBookModel_came_96 rfl (lv_at hl 1 rfl) ?_
                  refine x_getR hC hZ zc10 h (by decide) t_854 (fun _ h9 => h9) d_AckBookModel_came_97 (fun r98 h => ?_)
                  refine lv_iload_n hC.1 hC.2.1 d_AckBookModel_came_100 rfl (lv_at hl 2 rfl) ?_
                  refine x_ldI hC hZ h d_AckBookModel_came_101 (fun v99 h => ?_)
                  refine lv_if_ne (tgt := 115) hC.1 hC.2.1 d_AckBookModel_came_102 (by decide) (fun hc => ?_) (fun hc => ?_)
                  · have h := z_ifn hc h
                    refine x_aload_n hC d_AckBookModel_came_115 rfl (lv_at hl 1 rfl) ?_
                    refine x_getR hC hZ zc10 h (by decide) t_854 (fun _ h9 => h9) d_AckBookModel_came_116 (fun r107 h => ?_)
                    refine lv_iload_n hC.1 hC.2.1 d_AckBookModel_came_119 rfl (lv_at hl 2 rfl) ?_
                    refine lv_dup2_11 hC.1 hC.2.1 d_AckBookModel_came_120 rfl (z_rfc _) ?_
                    refine x_ldI hC hZ h d_AckBookModel_came_121 (fun v108 h => ?_)
                    refine lv_iconst (v := (1 : Int32)) hC.1 hC.2.1 d_AckBookModel_came_122 (by decide) ?_
                    refine lv_iadd hC.1 hC.2.1 d_AckBookModel_came_123 ?_
                    refine x_stI hC hZ h d_AckBookModel_came_124 (fun w H locs hZ h => ?_)
                    refine x_aload_n hC d_AckBookModel_came_125 rfl (lv_at hl 1 rfl) ?_
                    refine x_getR hC hZ zc10 h (by decide) t_856 (fun _ h9 => h9) d_AckBookModel_came_126 (fun r109 h => ?_)
                    refine lv_iload_n hC.1 hC.2.1 d_AckBookModel_came_129 rfl (lv_at hl 2 rfl) ?_
                    refine x_aload_n hC d_AckBookModel_came_130 rfl (lv_at hl 1 rfl) ?_
                    refine x_getR hC hZ zc10 h (by decide) t_856 (fun _ h9 => h9) d_AckBookModel_came_131 (fun r110 h => ?_)
                    refine lv_iload_n hC.1 hC.2.1 d_AckBookModel_came_134 rfl (lv_at hl 2 rfl) ?_
                    refine x_ldZ hC hZ h d_AckBookModel_came_135 (fun v111 h => ?_)
                    refine lv_if_ne (tgt := 148) hC.1 hC.2.1 d_AckBookModel_came_136 (by decide) (fun hc => ?_) (fun hc => ?_)
                    · have h := z_ifn hc h
                      refine lv_iconst (v := (1 : Int32)) hC.1 hC.2.1 d_AckBookModel_came_148 (by decide) ?_
                      refine lv_goto (tgt := 153) hC.1 hC.2.1 d_AckBookModel_came_149 (by decide) ?_
                      refine x_stZ hC hZ h d_AckBookModel_came_153 (fun w H locs hZ h => ?_)
                      refine lv_iconst (v := (1 : Int32)) hC.1 hC.2.1 d_AckBookModel_came_154 (by decide) ?_
                      exact x_iret hC hRc hRs hZ hr rfl h d_AckBookModel_came_155
                    · have h := z_ifp hc h
                      refine lv_lload_n hC.1 hC.2.1 d_AckBookModel_came_139 rfl (lv_at hl 3 rfl) ?_
                      refine lv_lload hC.1 hC.2.1 d_AckBookModel_came_140 (lv_at hl 0 rfl) ?_
                      refine lv_lconst (v := (1 : Int64)) hC.1 hC.2.1 d_AckBookModel_came_142 (by decide) ?_
                      refine lv_ladd hC.1 hC.2.1 d_AckBookModel_came_143 ?_
                      refine W.lcmp hC.1 hC.2.1 d_AckBookModel_came_144 ?_
                      refine lv_if_eq (tgt := 152) hC.1 hC.2.1 d_AckBookModel_came_145 (by decide) (fun hc => ?_) (fun hc => ?_)
                      · have h := z_ifp hc h
                        refine lv_iconst (v := (0 : Int32)) hC.1 hC.2.1 d_AckBookModel_came_152 (by decide) ?_
                        refine x_stZ hC hZ h d_AckBookModel_came_153 (fun w H locs hZ h => ?_)
                        refine lv_iconst (v := (1 : Int32)) hC.1 hC.2.1 d_AckBookModel_came_154 (by decide) ?_
                        exact x_iret hC hRc hRs hZ hr rfl h d_AckBookModel_came_155
                      · have h := z_ifn hc h
                        refine lv_iconst (v := (1 : Int32)) hC.1 hC.2.1 d_AckBookModel_came_148 (by decide) ?_
                        refine lv_goto (tgt := 153) hC.1 hC.2.1 d_AckBookModel_came_149 (by decide) ?_
                        refine x_stZ hC hZ h d_AckBookModel_came_153 (fun w H locs hZ h => ?_)
                        refine lv_iconst (v := (1 : Int32)) hC.1 hC.2.1 d_AckBookModel_came_154 (by decide) ?_
                        exact x_iret hC hRc hRs hZ hr rfl h d_AckBookModel_came_155
                  · have h := z_ifp hc h
                    refine x_aload_n hC d_AckBookModel_came_105 rfl (lv_at hl 1 rfl) ?_
                    refine x_getR hC hZ zc10 h (by decide) t_855 (fun _ h9 => h9) d_AckBookModel_came_106 (fun r100 h => ?_)
                    refine lv_iload_n hC.1 hC.2.1 d_AckBookModel_came_109 rfl (lv_at hl 2 rfl) ?_
                    refine x_aload_n hC d_AckBookModel_came_110 rfl (lv_at hl 1 rfl) ?_
                    refine x_getI hC hZ zc10 h (by decide) t_820 (fun _ h9 => h9) d_AckBookModel_came_111 (fun v101 h => ?_)
                    refine x_stI hC hZ h d_AckBookModel_came_114 (fun w H locs hZ h => ?_)
                    refine x_aload_n hC d_AckBookModel_came_115 rfl (lv_at hl 1 rfl) ?_
                    refine x_getR hC hZ zc10 h (by decide) t_854 (fun _ h9 => h9) d_AckBookModel_came_116 (fun r102 h => ?_)
                    refine lv_iload_n hC.1 hC.2.1 d_AckBookModel_came_119 rfl (lv_at hl 2 rfl) ?_
                    refine lv_dup2_11 hC.1 hC.2.1 d_AckBookModel_came_120 rfl (z_rfc _) ?_
                    refine x_ldI hC hZ h d_AckBookModel_came_121 (fun v103 h => ?_)
                    refine lv_iconst (v := (1 : Int32)) hC.1 hC.2.1 d_AckBookModel_came_122 (by decide) ?_
                    refine lv_iadd hC.1 hC.2.1 d_AckBookModel_came_123 ?_
                    refine x_stI hC hZ h d_AckBookModel_came_124 (fun w H locs hZ h => ?_)
                    refine x_aload_n hC d_AckBookModel_came_125 rfl (lv_at hl 1 rfl) ?_
                    refine x_getR hC hZ zc10 h (by decide) t_856 (fun _ h9 => h9) d_AckBookModel_came_126 (fun r104 h => ?_)
                    refine lv_iload_n hC.1 hC.2.1 d_AckBookModel_came_129 rfl (lv_at hl 2 rfl) ?_
                    refine x_aload_n hC d_AckBookModel_came_130 rfl (lv_at hl 1 rfl) ?_
                    refine x_getR hC hZ zc10 h (by decide) t_856 (fun _ h9 => h9) d_AckBookModel_came_131 (fun r105 h => ?_)
                    refine lv_iload_n hC.1 hC.2.1 d_AckBookModel_came_134 rfl (lv_at hl 2 rfl) ?_
                    refine x_ldZ hC hZ h d_AckBookModel_came_135 (fun v106 h => ?_)
                    refine lv_if_ne (tgt := 148) hC.1 hC.2.1 d_AckBookModel_came_136 (by decide) (fun hc => ?_) (fun hc => ?_)
                    · have h := z_ifn hc h
                      refine lv_iconst (v := (1 : Int32)) hC.1 hC.2.1 d_AckBookModel_came_148 (by decide) ?_
                      refine lv_goto (tgt := 153) hC.1 hC.2.1 d_AckBookModel_came_149 (by decide) ?_
                      refine x_stZ hC hZ h d_AckBookModel_came_153 (fun w H locs hZ h => ?_)
                      refine lv_iconst (v := (1 : Int32)) hC.1 hC.2.1 d_AckBookModel_came_154 (by decide) ?_
                      exact x_iret hC hRc hRs hZ hr rfl h d_AckBookModel_came_155
                    · have h := z_ifp hc h
                      refine lv_lload_n hC.1 hC.2.1 d_AckBookModel_came_139 rfl (lv_at hl 3 rfl) ?_
                      refine lv_lload hC.1 hC.2.1 d_AckBookModel_came_140 (lv_at hl 0 rfl) ?_
                      refine lv_lconst (v := (1 : Int64)) hC.1 hC.2.1 d_AckBookModel_came_142 (by decide) ?_
                      refine lv_ladd hC.1 hC.2.1 d_AckBookModel_came_143 ?_
                      refine W.lcmp hC.1 hC.2.1 d_AckBookModel_came_144 ?_
                      refine lv_if_eq (tgt := 152) hC.1 hC.2.1 d_AckBookModel_came_145 (by decide) (fun hc => ?_) (fun hc => ?_)
                      · have h := z_ifp hc h
                        refine lv_iconst (v := (0 : Int32)) hC.1 hC.2.1 d_AckBookModel_came_152 (by decide) ?_
                        refine x_stZ hC hZ h d_AckBookModel_came_153 (fun w H locs hZ h => ?_)
                        refine lv_iconst (v := (1 : Int32)) hC.1 hC.2.1 d_AckBookModel_came_154 (by decide) ?_
                        exact x_iret hC hRc hRs hZ hr rfl h d_AckBookModel_came_155
                      · have h := z_ifn hc h
                        refine lv_iconst (v := (1 : Int32)) hC.1 hC.2.1 d_AckBookModel_came_148 (by decide) ?_
                        refine lv_goto (tgt := 153) hC.1 hC.2.1 d_AckBookModel_came_149 (by decide) ?_
                        refine x_stZ hC hZ h d_AckBookModel_came_153 (fun w H locs hZ h => ?_)
                        refine lv_iconst (v := (1 : Int32)) hC.1 hC.2.1 d_AckBookModel_came_154 (by decide) ?_
                        exact x_iret hC hRc hRs hZ hr rfl h d_AckBookModel_came_155
                · have h := z_ifp hc h
                  refine lv_iconst (v := (1 : Int32)) hC.1 hC.2.1 d_AckBookModel_came_94 (by decide) ?_
                  exact x_iret hC hRc hRs hZ hr rfl h d_AckBookModel_came_95
              · have h := z_ifn hc h
                refine x_aload_n hC d_AckBookModel_came_73 rfl (lv_at hl 1 rfl) ?_
                refine x_getR hC hZ zc10 h (by decide) t_853 (fun _ h9 => h9) d_AckBookModel_came_74 (fun r112 h => ?_)
                refine lv_iload_n hC.1 hC.2.1 d_AckBookModel_came_77 rfl (lv_at hl 2 rfl) ?_
                refine x_aload_n hC d_AckBookModel_came_78 rfl (lv_at hl 1 rfl) ?_
                refine x_getI hC hZ zc10 h (by decide) t_820 (fun _ h9 => h9) d_AckBookModel_came_79 (fun v113 h => ?_)
                refine x_stI hC hZ h d_AckBookModel_came_82 (fun w H locs hZ h => ?_)
                refine x_aload_n hC d_AckBookModel_came_83 rfl (lv_at hl 1 rfl) ?_
                refine lv_iload_n hC.1 hC.2.1 d_AckBookModel_came_84 rfl (lv_at hl 2 rfl) ?_
                refine lv_lload_n hC.1 hC.2.1 d_AckBookModel_came_85 rfl (lv_at hl 3 rfl) ?_
                obtain ⟨a_, fs_, eo_, h⟩ := z_this_spec h
                obtain ⟨w1_, o1_, hF_, ha_⟩ := z_cV_spec h
                refine x_goes hC hRc hRs hFr ha_ (z_goV (As := [.int pI1, .long pJ2]) hC hZ zc10 eo_ (k_AckBookModel_comeIn hT hfl hE _ _ hF_) t_1062 t_1064 ts_AckBookModel_comeIn t_12 t_1065 ⟨by decide, by decide, (by decide +kernel : (parseMethodDescriptor y_AckBookModel_comeIn.desc).map (fun d => d.parameters.length) = some 2)⟩ (by rw [hRt.1]; decide) (by rw [hRt.2]; decide) hl.1 rfl (by first | exact Nat.le_of_ble_eq_true rfl | simp [z_rfc, z_ci, z_cj]) d_AckBookModel_came_86) (fun v_ hv H locs cells slots hZ => ?_)
                obtain ⟨rfl, h⟩ := hv
                generalize w1_ = w at h hZ
                refine lv_iload hC.1 hC.2.1 d_AckBookModel_came_89 (lv_at hl 4 rfl) ?_
                refine lv_if_ne (tgt := 96) hC.1 hC.2.1 d_AckBookModel_came_91 (by decide) (fun hc => ?_) (fun hc => ?_)
                · have h := z_ifn hc h
                  refine x_aload_n hC d_AckBookModel_came_96 rfl (lv_at hl 1 rfl) ?_
                  refine x_getR hC hZ zc10 h (by decide) t_854 (fun _ h9 => h9) d_AckBookModel_came_97 (fun r115 h => ?_)
                  refine lv_iload_n hC.1 hC.2.1 d_AckBookModel_came_100 rfl (lv_at hl 2 rfl) ?_
                  refine x_ldI hC hZ h d_AckBookModel_came_101 (fun v116 h => ?_)
                  refine lv_if_ne (tgt := 115) hC.1 hC.2.1 d_AckBookModel_came_102 (by decide) (fun hc => ?_) (fun hc => ?_)
                  · have h := z_ifn hc h
                    refine x_aload_n hC d_AckBookModel_came_115 rfl (lv_at hl 1 rfl) ?_
                    refine x_getR hC hZ zc10 h (by decide) t_854 (fun _ h9 => h9) d_AckBookModel_came_116 (fun r124 h => ?_)
                    refine lv_iload_n hC.1 hC.2.1 d_AckBookModel_came_119 rfl (lv_at hl 2 rfl) ?_
                    refine lv_dup2_11 hC.1 hC.2.1 d_AckBookModel_came_120 rfl (z_rfc _) ?_
                    refine x_ldI hC hZ h d_AckBookModel_came_121 (fun v125 h => ?_)
                    refine lv_iconst (v := (1 : Int32)) hC.1 hC.2.1 d_AckBookModel_came_122 (by decide) ?_
                    refine lv_iadd hC.1 hC.2.1 d_AckBookModel_came_123 ?_
                    refine x_stI hC hZ h d_AckBookModel_came_124 (fun w H locs hZ h => ?_)
                    refine x_aload_n hC d_AckBookModel_came_125 rfl (lv_at hl 1 rfl) ?_
                    refine x_getR hC hZ zc10 h (by decide) t_856 (fun _ h9 => h9) d_AckBookModel_came_126 (fun r126 h => ?_)
                    refine lv_iload_n hC.1 hC.2.1 d_AckBookModel_came_129 rfl (lv_at hl 2 rfl) ?_
                    refine x_aload_n hC d_AckBookModel_came_130 rfl (lv_at hl 1 rfl) ?_
                    refine x_getR hC hZ zc10 h (by decide) t_856 (fun _ h9 => h9) d_AckBookModel_came_131 (fun r127 h => ?_)
                    refine lv_iload_n hC.1 hC.2.1 d_AckBookModel_came_134 rfl (lv_at hl 2 rfl) ?_
                    refine x_ldZ hC hZ h d_AckBookModel_came_135 (fun v128 h => ?_)
                    refine lv_if_ne (tgt := 148) hC.1 hC.2.1 d_AckBookModel_came_136 (by decide) (fun hc => ?_) (fun hc => ?_)
                    · have h := z_ifn hc h
                      refine lv_iconst (v := (1 : Int32)) hC.1 hC.2.1 d_AckBookModel_came_148 (by decide) ?_
                      refine lv_goto (tgt := 153) hC.1 hC.2.1 d_AckBookModel_came_149 (by decide) ?_
                      refine x_stZ hC hZ h d_AckBookModel_came_153 (fun w H locs hZ h => ?_)
                      refine lv_iconst (v := (1 : Int32)) hC.1 hC.2.1 d_AckBookModel_came_154 (by decide) ?_
                      exact x_iret hC hRc hRs hZ hr rfl h d_AckBookModel_came_155
                    · have h := z_ifp hc h
                      refine lv_lload_n hC.1 hC.2.1 d_AckBookModel_came_139 rfl (lv_at hl 3 rfl) ?_
                      refine lv_lload hC.1 hC.2.1 d_AckBookModel_came_140 (lv_at hl 0 rfl) ?_
                      refine lv_lconst (v := (1 : Int64)) hC.1 hC.2.1 d_AckBookModel_came_142 (by decide) ?_
                      refine lv_ladd hC.1 hC.2.1 d_AckBookModel_came_143 ?_
                      refine W.lcmp hC.1 hC.2.1 d_AckBookModel_came_144 ?_
                      refine lv_if_eq (tgt := 152) hC.1 hC.2.1 d_AckBookModel_came_145 (by decide) (fun hc => ?_) (fun hc => ?_)
                      · have h := z_ifp hc h
                        refine lv_iconst (v := (0 : Int32)) hC.1 hC.2.1 d_AckBookModel_came_152 (by decide) ?_
                        refine x_stZ hC hZ h d_AckBookModel_came_153 (fun w H locs hZ h => ?_)
                        refine lv_iconst (v := (1 : Int32)) hC.1 hC.2.1 d_AckBookModel_came_154 (by decide) ?_
                        exact x_iret hC hRc hRs hZ hr rfl h d_AckBookModel_came_155
                      · have h := z_ifn hc h
                        refine lv_iconst (v := (1 : Int32)) hC.1 hC.2.1 d_AckBookModel_came_148 (by decide) ?_
                        refine lv_goto (tgt := 153) hC.1 hC.2.1 d_AckBookModel_came_149 (by decide) ?_
                        refine x_stZ hC hZ h d_AckBookModel_came_153 (fun w H locs hZ h => ?_)
                        refine lv_iconst (v := (1 : Int32)) hC.1 hC.2.1 d_AckBookModel_came_154 (by decide) ?_
                        exact x_iret hC hRc hRs hZ hr rfl h d_AckBookModel_came_155
                  · have h := z_ifp hc h
                    refine x_aload_n hC d_AckBookModel_came_105 rfl (lv_at hl 1 rfl) ?_
                    refine x_getR hC hZ zc10 h (by decide) t_855 (fun _ h9 => h9) d_AckBookModel_came_106 (fun r117 h => ?_)
                    refine lv_iload_n hC.1 hC.2.1 d_AckBookModel_came_109 rfl (lv_at hl 2 rfl) ?_
                    refine x_aload_n hC d_AckBookModel_came_110 rfl (lv_at hl 1 rfl) ?_
                    refine x_getI hC hZ zc10 h (by decide) t_820 (fun _ h9 => h9) d_AckBookModel_came_111 (fun v118 h => ?_)
                    refine x_stI hC hZ h d_AckBookModel_came_114 (fun w H locs hZ h => ?_)
                    refine x_aload_n hC d_AckBookModel_came_115 rfl (lv_at hl 1 rfl) ?_
                    refine x_getR hC hZ zc10 h (by decide) t_854 (fun _ h9 => h9) d_AckBookModel_came_116 (fun r119 h => ?_)
                    refine lv_iload_n hC.1 hC.2.1 d_AckBookModel_came_119 rfl (lv_at hl 2 rfl) ?_
                    refine lv_dup2_11 hC.1 hC.2.1 d_AckBookModel_came_120 rfl (z_rfc _) ?_
                    refine x_ldI hC hZ h d_AckBookModel_came_121 (fun v120 h => ?_)
                    refine lv_iconst (v := (1 : Int32)) hC.1 hC.2.1 d_AckBookModel_came_122 (by decide) ?_
                    refine lv_iadd hC.1 hC.2.1 d_AckBookModel_came_123 ?_
                    refine x_stI hC hZ h d_AckBookModel_came_124 (fun w H locs hZ h => ?_)
                    refine x_aload_n hC d_AckBookModel_came_125 rfl (lv_at hl 1 rfl) ?_
                    refine x_getR hC hZ zc10 h (by decide) t_856 (fun _ h9 => h9) d_AckBookModel_came_126 (fun r121 h => ?_)
                    refine lv_iload_n hC.1 hC.2.1 d_AckBookModel_came_129 rfl (lv_at hl 2 rfl) ?_
                    refine x_aload_n hC d_AckBookModel_came_130 rfl (lv_at hl 1 rfl) ?_
                    refine x_getR hC hZ zc10 h (by decide) t_856 (fun _ h9 => h9) d_AckBookModel_came_131 (fun r122 h => ?_)
                    refine lv_iload_n hC.1 hC.2.1 d_AckBookModel_came_134 rfl (lv_at hl 2 rfl) ?_
                    refine x_ldZ hC hZ h d_AckBookModel_came_135 (fun v123 h => ?_)
                    refine lv_if_ne (tgt := 148) hC.1 hC.2.1 d_AckBookModel_came_136 (by decide) (fun hc => ?_) (fun hc => ?_)
                    · have h := z_ifn hc h
                      refine lv_iconst (v := (1 : Int32)) hC.1 hC.2.1 d_AckBookModel_came_148 (by decide) ?_
                      refine lv_goto (tgt := 153) hC.1 hC.2.1 d_AckBookModel_came_149 (by decide) ?_
                      refine x_stZ hC hZ h d_AckBookModel_came_153 (fun w H locs hZ h => ?_)
                      refine lv_iconst (v := (1 : Int32)) hC.1 hC.2.1 d_AckBookModel_came_154 (by decide) ?_
                      exact x_iret hC hRc hRs hZ hr rfl h d_AckBookModel_came_155
                    · have h := z_ifp hc h
                      refine lv_lload_n hC.1 hC.2.1 d_AckBookModel_came_139 rfl (lv_at hl 3 rfl) ?_
                      refine lv_lload hC.1 hC.2.1 d_AckBookModel_came_140 (lv_at hl 0 rfl) ?_
                      refine lv_lconst (v := (1 : Int64)) hC.1 hC.2.1 d_AckBookModel_came_142 (by decide) ?_
                      refine lv_ladd hC.1 hC.2.1 d_AckBookModel_came_143 ?_
                      refine W.lcmp hC.1 hC.2.1 d_AckBookModel_came_144 ?_
                      refine lv_if_eq (tgt := 152) hC.1 hC.2.1 d_AckBookModel_came_145 (by decide) (fun hc => ?_) (fun hc => ?_)
                      · have h := z_ifp hc h
                        refine lv_iconst (v := (0 : Int32)) hC.1 hC.2.1 d_AckBookModel_came_152 (by decide) ?_
                        refine x_stZ hC hZ h d_AckBookModel_came_153 (fun w H locs hZ h => ?_)
                        refine lv_iconst (v := (1 : Int32)) hC.1 hC.2.1 d_AckBookModel_came_154 (by decide) ?_
                        exact x_iret hC hRc hRs hZ hr rfl h d_AckBookModel_came_155
                      · have h := z_ifn hc h
                        refine lv_iconst (v := (1 : Int32)) hC.1 hC.2.1 d_AckBookModel_came_148 (by decide) ?_
                        refine lv_goto (tgt := 153) hC.1 hC.2.1 d_AckBookModel_came_149 (by decide) ?_
                        refine x_stZ hC hZ h d_AckBookModel_came_153 (fun w H locs hZ h => ?_)
                        refine lv_iconst (v := (1 : Int32)) hC.1 hC.2.1 d_AckBookModel_came_154 (by decide) ?_
                        exact x_iret hC hRc hRs hZ hr rfl h d_AckBookModel_came_155
                · have h := z_ifp hc h
                  refine lv_iconst (v := (1 : Int32)) hC.1 hC.2.1 d_AckBookModel_came_94 (by decide) ?_
                  exact x_iret hC hRc hRs hZ hr rfl h d_AckBookModel_came_95
            · have h := z_ifn hc h
              refine lv_iconst (v := (0 : Int32)) hC.1 hC.2.1 d_AckBookModel_came_57 (by decide) ?_
              exact x_iret hC hRc hRs hZ hr rfl h d_AckBookModel_came_58

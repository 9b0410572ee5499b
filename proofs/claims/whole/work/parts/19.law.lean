abbrev iL_law : MI := (x, code, 4, some .boolean)
def bL_law_18 (nS : Nat) (xS : Nat → Int32) (t1 : Nat) (t2 : Nat) (s3 : Int32) (u : Mem) : Option ((Int32 × Mem) ⊕ ((Mem) ⊕ ((Mem) ⊕ ((Mem) ⊕ ((Mem) ⊕ ((Mem) ⊕ ((Mem) ⊕ ((Mem) ⊕ ((Mem) ⊕ ((Mem) ⊕ ((Mem) ⊕ ((Mem) ⊕ ((Mem) ⊕ ((Mem) ⊕ ((Mem) ⊕ ((Mem) ⊕ ((Mem) ⊕ ((Mem) ⊕ ((Mem) ⊕ ((Mem) ⊕ ((Mem) ⊕ ((Mem) ⊕ ((Mem) ⊕ ((Mem) ⊕ ((Mem) ⊕ ((Mem) ⊕ (Mem))))))))))))))))))))))))))) :=
  if (((Int32.ofNat nS)) - (6 : Int32)) < s3 then
    some (.inr (.inl u))
  else
    (if inb s3 nS = true then some (xS (Int32.toNatClampNeg s3)) else none).bind fun v8 =>
    if (v8 &&& (31 : Int32)) = 0 then
      (if inb (s3 + (1 : Int32)) nS = true then some (xS (Int32.toNatClampNeg (s3 + (1 : Int32)))) else none).bind fun v10 =>
      (if inb (s3 + (2 : Int32)) nS = true then some (xS (Int32.toNatClampNeg (s3 + (2 : Int32)))) else none).bind fun v11 =>
      (if inb (s3 + (3 : Int32)) nS = true then some (xS (Int32.toNatClampNeg (s3 + (3 : Int32)))) else none).bind fun v12 =>
      (if inb (s3 + (4 : Int32)) nS = true then some (xS (Int32.toNatClampNeg (s3 + (4 : Int32)))) else none).bind fun v13 =>
      (if inb (s3 + (5 : Int32)) nS = true then some (xS (Int32.toNatClampNeg (s3 + (5 : Int32)))) else none).bind fun v14 =>
      (chk u (some t1) 10).bind fun b15 =>
      bnd2 (fX10_feed t1 v10 v11 v12 v13 v14 u) fun v16 u17 =>
      (if inb (s3 + (1 : Int32)) nS = true then some (xS (Int32.toNatClampNeg (s3 + (1 : Int32)))) else none).bind fun v18 =>
      (if inb (s3 + (2 : Int32)) nS = true then some (xS (Int32.toNatClampNeg (s3 + (2 : Int32)))) else none).bind fun v19 =>
      (if inb (s3 + (3 : Int32)) nS = true then some (xS (Int32.toNatClampNeg (s3 + (3 : Int32)))) else none).bind fun v20 =>
      (if inb (s3 + (4 : Int32)) nS = true then some (xS (Int32.toNatClampNeg (s3 + (4 : Int32)))) else none).bind fun v21 =>
      (if inb (s3 + (5 : Int32)) nS = true then some (xS (Int32.toNatClampNeg (s3 + (5 : Int32)))) else none).bind fun v22 =>
      (chk u17 (some t2) 12).bind fun b23 =>
      bnd2 (fX12_feed t2 v18 v19 v20 v21 v22 u17) fun v24 u25 =>
      if v16 = v24 then
        nm (s3 + 6 : Int32) fun x27 =>
        some (.inl (x27, u25))
      else
        some (.inr (.inr (.inl u25)))
    else if (v8 &&& (31 : Int32)) = 1 then
        (if inb (s3 + (1 : Int32)) nS = true then some (xS (Int32.toNatClampNeg (s3 + (1 : Int32)))) else none).bind fun v29 =>
        (chk u (some t1) 10).bind fun b30 =>
        bnd2 (fX10_end t1 v29 u) fun v31 u32 =>
        (if inb (s3 + (1 : Int32)) nS = true then some (xS (Int32.toNatClampNeg (s3 + (1 : Int32)))) else none).bind fun v33 =>
        (chk u32 (some t2) 12).bind fun b34 =>
        bnd2 (fX12_end t2 v33 u32) fun v35 u36 =>
        if v31 = v35 then
          nm (s3 + 6 : Int32) fun x38 =>
          some (.inl (x38, u36))
        else
          some (.inr (.inr (.inr (.inl u36))))
      else if (v8 &&& (31 : Int32)) = 2 then
          (chk u (some t1) 10).bind fun b40 =>
          bnd2 (fX10_rules t1 u) fun v41 u42 =>
          (chk u42 (some t2) 12).bind fun b43 =>
          bnd2 (fX12_rules t2 u42) fun v44 u45 =>
          if v41 = v44 then
            nm (s3 + 6 : Int32) fun x47 =>
            some (.inl (x47, u45))
          else
            some (.inr (.inr (.inr (.inr (.inl u45)))))
        else if (v8 &&& (31 : Int32)) = 3 then
            (if inb (s3 + (1 : Int32)) nS = true then some (xS (Int32.toNatClampNeg (s3 + (1 : Int32)))) else none).bind fun v49 =>
            (chk u (some t1) 10).bind fun b50 =>
            (fX10_fault t1 v49 u).bind fun v51 =>
            (if inb (s3 + (1 : Int32)) nS = true then some (xS (Int32.toNatClampNeg (s3 + (1 : Int32)))) else none).bind fun v52 =>
            (chk u (some t2) 12).bind fun b53 =>
            (fX12_fault t2 v52 u).bind fun v54 =>
            if v51 = v54 then
              nm (s3 + 6 : Int32) fun x56 =>
              some (.inl (x56, u))
            else
              some (.inr (.inr (.inr (.inr (.inr (.inl u))))))
          else if (v8 &&& (31 : Int32)) = 4 then
              (if inb (s3 + (1 : Int32)) nS = true then some (xS (Int32.toNatClampNeg (s3 + (1 : Int32)))) else none).bind fun v58 =>
              (chk u (some t1) 10).bind fun b59 =>
              (fX10_rule t1 v58 u).bind fun v60 =>
              (if inb (s3 + (1 : Int32)) nS = true then some (xS (Int32.toNatClampNeg (s3 + (1 : Int32)))) else none).bind fun v61 =>
              (chk u (some t2) 12).bind fun b62 =>
              (fX12_rule t2 v61 u).bind fun v63 =>
              if v60 = v63 then
                nm (s3 + 6 : Int32) fun x65 =>
                some (.inl (x65, u))
              else
                some (.inr (.inr (.inr (.inr (.inr (.inr (.inl u)))))))
            else if (v8 &&& (31 : Int32)) = 5 then
                (if inb (s3 + (1 : Int32)) nS = true then some (xS (Int32.toNatClampNeg (s3 + (1 : Int32)))) else none).bind fun v67 =>
                (if inb (s3 + (2 : Int32)) nS = true then some (xS (Int32.toNatClampNeg (s3 + (2 : Int32)))) else none).bind fun v68 =>
                (chk u (some t1) 10).bind fun b69 =>
                bnd2 (fX10_question t1 v67 v68 u) fun v70 u71 =>
                (if inb (s3 + (1 : Int32)) nS = true then some (xS (Int32.toNatClampNeg (s3 + (1 : Int32)))) else none).bind fun v72 =>
                (if inb (s3 + (2 : Int32)) nS = true then some (xS (Int32.toNatClampNeg (s3 + (2 : Int32)))) else none).bind fun v73 =>
                (chk u71 (some t2) 12).bind fun b74 =>
                bnd2 (fX12_question t2 v72 v73 u71) fun v75 u76 =>
                if v70 = v75 then
                  nm (s3 + 6 : Int32) fun x78 =>
                  some (.inl (x78, u76))
                else
                  some (.inr (.inr (.inr (.inr (.inr (.inr (.inr (.inl u76))))))))
              else if (v8 &&& (31 : Int32)) = 6 then
                  (if inb (s3 + (1 : Int32)) nS = true then some (xS (Int32.toNatClampNeg (s3 + (1 : Int32)))) else none).bind fun v80 =>
                  (if inb (s3 + (2 : Int32)) nS = true then some (xS (Int32.toNatClampNeg (s3 + (2 : Int32)))) else none).bind fun v81 =>
                  (if inb (s3 + (3 : Int32)) nS = true then some (xS (Int32.toNatClampNeg (s3 + (3 : Int32)))) else none).bind fun v82 =>
                  (chk u (some t1) 10).bind fun b83 =>
                  bnd2 (fX10_tell t1 v80 v81 v82 u) fun v84 u85 =>
                  (if inb (s3 + (1 : Int32)) nS = true then some (xS (Int32.toNatClampNeg (s3 + (1 : Int32)))) else none).bind fun v86 =>
                  (if inb (s3 + (2 : Int32)) nS = true then some (xS (Int32.toNatClampNeg (s3 + (2 : Int32)))) else none).bind fun v87 =>
                  (if inb (s3 + (3 : Int32)) nS = true then some (xS (Int32.toNatClampNeg (s3 + (3 : Int32)))) else none).bind fun v88 =>
                  (chk u85 (some t2) 12).bind fun b89 =>
                  bnd2 (fX12_tell t2 v86 v87 v88 u85) fun v90 u91 =>
                  if v84 = v90 then
                    nm (s3 + 6 : Int32) fun x93 =>
                    some (.inl (x93, u91))
                  else
                    some (.inr (.inr (.inr (.inr (.inr (.inr (.inr (.inr (.inl u91)))))))))
                else if (v8 &&& (31 : Int32)) = 7 then
                    (if inb (s3 + (1 : Int32)) nS = true then some (xS (Int32.toNatClampNeg (s3 + (1 : Int32)))) else none).bind fun v95 =>
                    (if inb (s3 + (2 : Int32)) nS = true then some (xS (Int32.toNatClampNeg (s3 + (2 : Int32)))) else none).bind fun v96 =>
                    (if inb (s3 + (3 : Int32)) nS = true then some (xS (Int32.toNatClampNeg (s3 + (3 : Int32)))) else none).bind fun v97 =>
                    (if inb (s3 + (4 : Int32)) nS = true then some (xS (Int32.toNatClampNeg (s3 + (4 : Int32)))) else none).bind fun v98 =>
                    (chk u (some t1) 10).bind fun b99 =>
                    bnd2 (fX10_guess t1 v95 v96 v97 v98 u) fun v100 u101 =>
                    (if inb (s3 + (1 : Int32)) nS = true then some (xS (Int32.toNatClampNeg (s3 + (1 : Int32)))) else none).bind fun v102 =>
                    (if inb (s3 + (2 : Int32)) nS = true then some (xS (Int32.toNatClampNeg (s3 + (2 : Int32)))) else none).bind fun v103 =>
                    (if inb (s3 + (3 : Int32)) nS = true then some (xS (Int32.toNatClampNeg (s3 + (3 : Int32)))) else none).bind fun v104 =>
                    (if inb (s3 + (4 : Int32)) nS = true then some (xS (Int32.toNatClampNeg (s3 + (4 : Int32)))) else none).bind fun v105 =>
                    (chk u101 (some t2) 12).bind fun b106 =>
                    bnd2 (fX12_guess t2 v102 v103 v104 v105 u101) fun v107 u108 =>
                    if v100 = v107 then
                      nm (s3 + 6 : Int32) fun x110 =>
                      some (.inl (x110, u108))
                    else
                      some (.inr (.inr (.inr (.inr (.inr (.inr (.inr (.inr (.inr (.inl u108))))))))))
                  else if (v8 &&& (31 : Int32)) = 8 then
                      (if inb (s3 + (1 : Int32)) nS = true then some (xS (Int32.toNatClampNeg (s3 + (1 : Int32)))) else none).bind fun v112 =>
                      (if inb (s3 + (2 : Int32)) nS = true then some (xS (Int32.toNatClampNeg (s3 + (2 : Int32)))) else none).bind fun v113 =>
                      (if inb (s3 + (3 : Int32)) nS = true then some (xS (Int32.toNatClampNeg (s3 + (3 : Int32)))) else none).bind fun v114 =>
                      (chk u (some t1) 10).bind fun b115 =>
                      (fX10_holds t1 v112 v113 v114 u).bind fun v116 =>
                      (if inb (s3 + (1 : Int32)) nS = true then some (xS (Int32.toNatClampNeg (s3 + (1 : Int32)))) else none).bind fun v117 =>
                      (if inb (s3 + (2 : Int32)) nS = true then some (xS (Int32.toNatClampNeg (s3 + (2 : Int32)))) else none).bind fun v118 =>
                      (if inb (s3 + (3 : Int32)) nS = true then some (xS (Int32.toNatClampNeg (s3 + (3 : Int32)))) else none).bind fun v119 =>
                      (chk u (some t2) 12).bind fun b120 =>
                      (fX12_holds t2 v117 v118 v119 u).bind fun v121 =>
                      if v116 = v121 then
                        nm (s3 + 6 : Int32) fun x123 =>
                        some (.inl (x123, u))
                      else
                        some (.inr (.inr (.inr (.inr (.inr (.inr (.inr (.inr (.inr (.inr (.inl u)))))))))))
                    else if (v8 &&& (31 : Int32)) = 9 then
                        (if inb (s3 + (1 : Int32)) nS = true then some (xS (Int32.toNatClampNeg (s3 + (1 : Int32)))) else none).bind fun v125 =>
                        (if inb (s3 + (2 : Int32)) nS = true then some (xS (Int32.toNatClampNeg (s3 + (2 : Int32)))) else none).bind fun v126 =>
                        (if inb (s3 + (3 : Int32)) nS = true then some (xS (Int32.toNatClampNeg (s3 + (3 : Int32)))) else none).bind fun v127 =>
                        (chk u (some t1) 10).bind fun b128 =>
                        bnd2 (fX10_rows t1 v125 v126 v127 u) fun v129 u130 =>
                        (if inb (s3 + (1 : Int32)) nS = true then some (xS (Int32.toNatClampNeg (s3 + (1 : Int32)))) else none).bind fun v131 =>
                        (if inb (s3 + (2 : Int32)) nS = true then some (xS (Int32.toNatClampNeg (s3 + (2 : Int32)))) else none).bind fun v132 =>
                        (if inb (s3 + (3 : Int32)) nS = true then some (xS (Int32.toNatClampNeg (s3 + (3 : Int32)))) else none).bind fun v133 =>
                        (chk u130 (some t2) 12).bind fun b134 =>
                        bnd2 (fX12_rows t2 v131 v132 v133 u130) fun v135 u136 =>
                        if v129 = v135 then
                          nm (s3 + 6 : Int32) fun x138 =>
                          some (.inl (x138, u136))
                        else
                          some (.inr (.inr (.inr (.inr (.inr (.inr (.inr (.inr (.inr (.inr (.inr (.inl u136))))))))))))
                      else if (v8 &&& (31 : Int32)) = 10 then
                          (if inb (s3 + (1 : Int32)) nS = true then some (xS (Int32.toNatClampNeg (s3 + (1 : Int32)))) else none).bind fun v140 =>
                          (if inb (s3 + (2 : Int32)) nS = true then some (xS (Int32.toNatClampNeg (s3 + (2 : Int32)))) else none).bind fun v141 =>
                          (chk u (some t1) 10).bind fun b142 =>
                          bnd2 (fX10_mean t1 v140 v141 u) fun v143 u144 =>
                          (if inb (s3 + (1 : Int32)) nS = true then some (xS (Int32.toNatClampNeg (s3 + (1 : Int32)))) else none).bind fun v145 =>
                          (if inb (s3 + (2 : Int32)) nS = true then some (xS (Int32.toNatClampNeg (s3 + (2 : Int32)))) else none).bind fun v146 =>
                          (chk u144 (some t2) 12).bind fun b147 =>
                          bnd2 (fX12_mean t2 v145 v146 u144) fun v148 u149 =>
                          if v143 = v148 then
                            nm (s3 + 6 : Int32) fun x151 =>
                            some (.inl (x151, u149))
                          else
                            some (.inr (.inr (.inr (.inr (.inr (.inr (.inr (.inr (.inr (.inr (.inr (.inr (.inl u149)))))))))))))
                        else if (v8 &&& (31 : Int32)) = 11 then
                            (if inb (s3 + (1 : Int32)) nS = true then some (xS (Int32.toNatClampNeg (s3 + (1 : Int32)))) else none).bind fun v153 =>
                            (chk u (some t1) 10).bind fun b154 =>
                            bnd2 (fX10_ranked t1 v153 u) fun v155 u156 =>
                            (if inb (s3 + (1 : Int32)) nS = true then some (xS (Int32.toNatClampNeg (s3 + (1 : Int32)))) else none).bind fun v157 =>
                            (chk u156 (some t2) 12).bind fun b158 =>
                            bnd2 (fX12_ranked t2 v157 u156) fun v159 u160 =>
                            if v155 = v159 then
                              nm (s3 + 6 : Int32) fun x162 =>
                              some (.inl (x162, u160))
                            else
                              some (.inr (.inr (.inr (.inr (.inr (.inr (.inr (.inr (.inr (.inr (.inr (.inr (.inr (.inl u160))))))))))))))
                          else if (v8 &&& (31 : Int32)) = 12 then
                              (if inb (s3 + (1 : Int32)) nS = true then some (xS (Int32.toNatClampNeg (s3 + (1 : Int32)))) else none).bind fun v164 =>
                              (chk u (some t1) 10).bind fun b165 =>
                              (fX10_pays t1 v164 u).bind fun v166 =>
                              (if inb (s3 + (1 : Int32)) nS = true then some (xS (Int32.toNatClampNeg (s3 + (1 : Int32)))) else none).bind fun v167 =>
                              (chk u (some t2) 12).bind fun b168 =>
                              (fX12_pays t2 v167 u).bind fun v169 =>
                              if v166 = v169 then
                                nm (s3 + 6 : Int32) fun x171 =>
                                some (.inl (x171, u))
                              else
                                some (.inr (.inr (.inr (.inr (.inr (.inr (.inr (.inr (.inr (.inr (.inr (.inr (.inr (.inr (.inl u)))))))))))))))
                            else if (v8 &&& (31 : Int32)) = 13 then
                                (chk u (some t1) 10).bind fun b173 =>
                                (fX10_honest t1 u).bind fun v174 =>
                                (chk u (some t2) 12).bind fun b175 =>
                                (fX12_honest t2 u).bind fun v176 =>
                                if v174 = v176 then
                                  nm (s3 + 6 : Int32) fun x178 =>
                                  some (.inl (x178, u))
                                else
                                  some (.inr (.inr (.inr (.inr (.inr (.inr (.inr (.inr (.inr (.inr (.inr (.inr (.inr (.inr (.inr (.inl u))))))))))))))))
                              else if (v8 &&& (31 : Int32)) = 14 then
                                  (if inb (s3 + (1 : Int32)) nS = true then some (xS (Int32.toNatClampNeg (s3 + (1 : Int32)))) else none).bind fun v180 =>
                                  (if inb (s3 + (2 : Int32)) nS = true then some (xS (Int32.toNatClampNeg (s3 + (2 : Int32)))) else none).bind fun v181 =>
                                  (chk u (some t1) 10).bind fun b182 =>
                                  (fX10_copies t1 v180 v181 u).bind fun v183 =>
                                  (if inb (s3 + (1 : Int32)) nS = true then some (xS (Int32.toNatClampNeg (s3 + (1 : Int32)))) else none).bind fun v184 =>
                                  (if inb (s3 + (2 : Int32)) nS = true then some (xS (Int32.toNatClampNeg (s3 + (2 : Int32)))) else none).bind fun v185 =>
                                  (chk u (some t2) 12).bind fun b186 =>
                                  bnd2 (fX12_copies t2 v184 v185 u) fun v187 u188 =>
                                  if v183 = v187 then
                                    nm (s3 + 6 : Int32) fun x190 =>
                                    some (.inl (x190, u188))
                                  else
                                    some (.inr (.inr (.inr (.inr (.inr (.inr (.inr (.inr (.inr (.inr (.inr (.inr (.inr (.inr (.inr (.inr (.inl u188)))))))))))))))))
                                else if (v8 &&& (31 : Int32)) = 15 then
                                    (if inb (s3 + (1 : Int32)) nS = true then some (xS (Int32.toNatClampNeg (s3 + (1 : Int32)))) else none).bind fun v192 =>
                                    (if inb (s3 + (2 : Int32)) nS = true then some (xS (Int32.toNatClampNeg (s3 + (2 : Int32)))) else none).bind fun v193 =>
                                    (chk u (some t1) 10).bind fun b194 =>
                                    bnd2 (fX10_weight t1 v192 v193 u) fun v195 u196 =>
                                    (if inb (s3 + (1 : Int32)) nS = true then some (xS (Int32.toNatClampNeg (s3 + (1 : Int32)))) else none).bind fun v197 =>
                                    (if inb (s3 + (2 : Int32)) nS = true then some (xS (Int32.toNatClampNeg (s3 + (2 : Int32)))) else none).bind fun v198 =>
                                    (chk u196 (some t2) 12).bind fun b199 =>
                                    bnd2 (fX12_weight t2 v197 v198 u196) fun v200 u201 =>
                                    if v195 = v200 then
                                      nm (s3 + 6 : Int32) fun x203 =>
                                      some (.inl (x203, u201))
                                    else
                                      some (.inr (.inr (.inr (.inr (.inr (.inr (.inr (.inr (.inr (.inr (.inr (.inr (.inr (.inr (.inr (.inr (.inr (.inl u201))))))))))))))))))
                                  else if (v8 &&& (31 : Int32)) = 16 then
                                      (if inb (s3 + (1 : Int32)) nS = true then some (xS (Int32.toNatClampNeg (s3 + (1 : Int32)))) else none).bind fun v205 =>
                                      (if inb (s3 + (2 : Int32)) nS = true then some (xS (Int32.toNatClampNeg (s3 + (2 : Int32)))) else none).bind fun v206 =>
                                      (chk u (some t1) 10).bind fun b207 =>
                                      bnd2 (fX10_joined t1 v205 v206 u) fun v208 u209 =>
                                      (if inb (s3 + (1 : Int32)) nS = true then some (xS (Int32.toNatClampNeg (s3 + (1 : Int32)))) else none).bind fun v210 =>
                                      (if inb (s3 + (2 : Int32)) nS = true then some (xS (Int32.toNatClampNeg (s3 + (2 : Int32)))) else none).bind fun v211 =>
                                      (chk u209 (some t2) 12).bind fun b212 =>
                                      bnd2 (fX12_joined t2 v210 v211 u209) fun v213 u214 =>
                                      if v208 = v213 then
                                        nm (s3 + 6 : Int32) fun x216 =>
                                        some (.inl (x216, u214))
                                      else
                                        some (.inr (.inr (.inr (.inr (.inr (.inr (.inr (.inr (.inr (.inr (.inr (.inr (.inr (.inr (.inr (.inr (.inr (.inr (.inl u214)))))))))))))))))))
                                    else if (v8 &&& (31 : Int32)) = 17 then
                                        (if inb (s3 + (1 : Int32)) nS = true then some (xS (Int32.toNatClampNeg (s3 + (1 : Int32)))) else none).bind fun v218 =>
                                        (if inb (s3 + (2 : Int32)) nS = true then some (xS (Int32.toNatClampNeg (s3 + (2 : Int32)))) else none).bind fun v219 =>
                                        (chk u (some t1) 10).bind fun b220 =>
                                        bnd2 (fX10_together t1 v218 v219 u) fun v221 u222 =>
                                        (if inb (s3 + (1 : Int32)) nS = true then some (xS (Int32.toNatClampNeg (s3 + (1 : Int32)))) else none).bind fun v223 =>
                                        (if inb (s3 + (2 : Int32)) nS = true then some (xS (Int32.toNatClampNeg (s3 + (2 : Int32)))) else none).bind fun v224 =>
                                        (chk u222 (some t2) 12).bind fun b225 =>
                                        bnd2 (fX12_together t2 v223 v224 u222) fun v226 u227 =>
                                        if v221 = v226 then
                                          nm (s3 + 6 : Int32) fun x229 =>
                                          some (.inl (x229, u227))
                                        else
                                          some (.inr (.inr (.inr (.inr (.inr (.inr (.inr (.inr (.inr (.inr (.inr (.inr (.inr (.inr (.inr (.inr (.inr (.inr (.inr (.inl u227))))))))))))))))))))
                                      else if (v8 &&& (31 : Int32)) = 18 then
                                          (if inb (s3 + (1 : Int32)) nS = true then some (xS (Int32.toNatClampNeg (s3 + (1 : Int32)))) else none).bind fun v231 =>
                                          (if inb (s3 + (2 : Int32)) nS = true then some (xS (Int32.toNatClampNeg (s3 + (2 : Int32)))) else none).bind fun v232 =>
                                          (chk u (some t1) 10).bind fun b233 =>
                                          bnd2 (fX10_luck t1 v231 v232 u) fun v234 u235 =>
                                          (if inb (s3 + (1 : Int32)) nS = true then some (xS (Int32.toNatClampNeg (s3 + (1 : Int32)))) else none).bind fun v236 =>
                                          (if inb (s3 + (2 : Int32)) nS = true then some (xS (Int32.toNatClampNeg (s3 + (2 : Int32)))) else none).bind fun v237 =>
                                          (chk u235 (some t2) 12).bind fun b238 =>
                                          bnd2 (fX12_luck t2 v236 v237 u235) fun v239 u240 =>
                                          if (lg_cmp v234 v239) = 0 then
                                            nm (s3 + 6 : Int32) fun x242 =>
                                            some (.inl (x242, u240))
                                          else
                                            some (.inr (.inr (.inr (.inr (.inr (.inr (.inr (.inr (.inr (.inr (.inr (.inr (.inr (.inr (.inr (.inr (.inr (.inr (.inr (.inr (.inl u240)))))))))))))))))))))
                                        else if (v8 &&& (31 : Int32)) = 19 then
                                            (if inb (s3 + (1 : Int32)) nS = true then some (xS (Int32.toNatClampNeg (s3 + (1 : Int32)))) else none).bind fun v244 =>
                                            (if inb (s3 + (2 : Int32)) nS = true then some (xS (Int32.toNatClampNeg (s3 + (2 : Int32)))) else none).bind fun v245 =>
                                            (if inb (s3 + (3 : Int32)) nS = true then some (xS (Int32.toNatClampNeg (s3 + (3 : Int32)))) else none).bind fun v246 =>
                                            (chk u (some t1) 10).bind fun b247 =>
                                            bnd2 (fX10_tie t1 v244 v245 v246 u) fun v248 u249 =>
                                            (if inb (s3 + (1 : Int32)) nS = true then some (xS (Int32.toNatClampNeg (s3 + (1 : Int32)))) else none).bind fun v250 =>
                                            (if inb (s3 + (2 : Int32)) nS = true then some (xS (Int32.toNatClampNeg (s3 + (2 : Int32)))) else none).bind fun v251 =>
                                            (if inb (s3 + (3 : Int32)) nS = true then some (xS (Int32.toNatClampNeg (s3 + (3 : Int32)))) else none).bind fun v252 =>
                                            (chk u249 (some t2) 12).bind fun b253 =>
                                            bnd2 (fX12_tie t2 v250 v251 v252 u249) fun v254 u255 =>
                                            if v248 = v254 then
                                              nm (s3 + 6 : Int32) fun x257 =>
                                              some (.inl (x257, u255))
                                            else
                                              some (.inr (.inr (.inr (.inr (.inr (.inr (.inr (.inr (.inr (.inr (.inr (.inr (.inr (.inr (.inr (.inr (.inr (.inr (.inr (.inr (.inr (.inl u255))))))))))))))))))))))
                                          else if (v8 &&& (31 : Int32)) = 20 then
                                              (if inb (s3 + (1 : Int32)) nS = true then some (xS (Int32.toNatClampNeg (s3 + (1 : Int32)))) else none).bind fun v259 =>
                                              (if inb (s3 + (2 : Int32)) nS = true then some (xS (Int32.toNatClampNeg (s3 + (2 : Int32)))) else none).bind fun v260 =>
                                              (chk u (some t1) 10).bind fun b261 =>
                                              (fX10_pumps t1 v259 v260 u).bind fun v262 =>
                                              (if inb (s3 + (1 : Int32)) nS = true then some (xS (Int32.toNatClampNeg (s3 + (1 : Int32)))) else none).bind fun v263 =>
                                              (if inb (s3 + (2 : Int32)) nS = true then some (xS (Int32.toNatClampNeg (s3 + (2 : Int32)))) else none).bind fun v264 =>
                                              (chk u (some t2) 12).bind fun b265 =>
                                              (fX12_pumps t2 v263 v264 u).bind fun v266 =>
                                              if v262 = v266 then
                                                nm (s3 + 6 : Int32) fun x268 =>
                                                some (.inl (x268, u))
                                              else
                                                some (.inr (.inr (.inr (.inr (.inr (.inr (.inr (.inr (.inr (.inr (.inr (.inr (.inr (.inr (.inr (.inr (.inr (.inr (.inr (.inr (.inr (.inr (.inl u)))))))))))))))))))))))
                                            else if (v8 &&& (31 : Int32)) = 21 then
                                                (if inb (s3 + (1 : Int32)) nS = true then some (xS (Int32.toNatClampNeg (s3 + (1 : Int32)))) else none).bind fun v270 =>
                                                (if inb (s3 + (2 : Int32)) nS = true then some (xS (Int32.toNatClampNeg (s3 + (2 : Int32)))) else none).bind fun v271 =>
                                                (if inb (s3 + (3 : Int32)) nS = true then some (xS (Int32.toNatClampNeg (s3 + (3 : Int32)))) else none).bind fun v272 =>
                                                (chk u (some t1) 10).bind fun b273 =>
                                                bnd2 (fX10_mend t1 v270 v271 v272 u) fun v274 u275 =>
                                                (if inb (s3 + (1 : Int32)) nS = true then some (xS (Int32.toNatClampNeg (s3 + (1 : Int32)))) else none).bind fun v276 =>
                                                (if inb (s3 + (2 : Int32)) nS = true then some (xS (Int32.toNatClampNeg (s3 + (2 : Int32)))) else none).bind fun v277 =>
                                                (if inb (s3 + (3 : Int32)) nS = true then some (xS (Int32.toNatClampNeg (s3 + (3 : Int32)))) else none).bind fun v278 =>
                                                (chk u275 (some t2) 12).bind fun b279 =>
                                                bnd2 (fX12_mend t2 v276 v277 v278 u275) fun v280 u281 =>
                                                if v274 = v280 then
                                                  nm (s3 + 6 : Int32) fun x283 =>
                                                  some (.inl (x283, u281))
                                                else
                                                  some (.inr (.inr (.inr (.inr (.inr (.inr (.inr (.inr (.inr (.inr (.inr (.inr (.inr (.inr (.inr (.inr (.inr (.inr (.inr (.inr (.inr (.inr (.inr (.inl u281))))))))))))))))))))))))
                                              else if (v8 &&& (31 : Int32)) = 22 then
                                                  (if inb (s3 + (1 : Int32)) nS = true then some (xS (Int32.toNatClampNeg (s3 + (1 : Int32)))) else none).bind fun v285 =>
                                                  (chk u (some t1) 10).bind fun b286 =>
                                                  (fX10_mended t1 v285 u).bind fun v287 =>
                                                  (if inb (s3 + (1 : Int32)) nS = true then some (xS (Int32.toNatClampNeg (s3 + (1 : Int32)))) else none).bind fun v288 =>
                                                  (chk u (some t2) 12).bind fun b289 =>
                                                  (fX12_mended t2 v288 u).bind fun v290 =>
                                                  if v287 = v290 then
                                                    nm (s3 + 6 : Int32) fun x292 =>
                                                    some (.inl (x292, u))
                                                  else
                                                    some (.inr (.inr (.inr (.inr (.inr (.inr (.inr (.inr (.inr (.inr (.inr (.inr (.inr (.inr (.inr (.inr (.inr (.inr (.inr (.inr (.inr (.inr (.inr (.inr (.inl u)))))))))))))))))))))))))
                                                else if (v8 &&& (31 : Int32)) = 23 then
                                                    (if inb (s3 + (1 : Int32)) nS = true then some (xS (Int32.toNatClampNeg (s3 + (1 : Int32)))) else none).bind fun v294 =>
                                                    (if inb (s3 + (2 : Int32)) nS = true then some (xS (Int32.toNatClampNeg (s3 + (2 : Int32)))) else none).bind fun v295 =>
                                                    (chk u (some t1) 10).bind fun b296 =>
                                                    (fX10_about t1 v294 v295 u).bind fun v297 =>
                                                    (if inb (s3 + (1 : Int32)) nS = true then some (xS (Int32.toNatClampNeg (s3 + (1 : Int32)))) else none).bind fun v298 =>
                                                    (if inb (s3 + (2 : Int32)) nS = true then some (xS (Int32.toNatClampNeg (s3 + (2 : Int32)))) else none).bind fun v299 =>
                                                    (chk u (some t2) 12).bind fun b300 =>
                                                    (fX12_about t2 v298 v299 u).bind fun v301 =>
                                                    if v297 = v301 then
                                                      nm (s3 + 6 : Int32) fun x303 =>
                                                      some (.inl (x303, u))
                                                    else
                                                      some (.inr (.inr (.inr (.inr (.inr (.inr (.inr (.inr (.inr (.inr (.inr (.inr (.inr (.inr (.inr (.inr (.inr (.inr (.inr (.inr (.inr (.inr (.inr (.inr (.inr (.inl u))))))))))))))))))))))))))
                                                  else if (v8 &&& (31 : Int32)) = 24 then
                                                      (if inb (s3 + (1 : Int32)) nS = true then some (xS (Int32.toNatClampNeg (s3 + (1 : Int32)))) else none).bind fun v305 =>
                                                      (chk u (some t1) 10).bind fun b306 =>
                                                      bnd2 (fX10_count t1 v305 u) fun v307 u308 =>
                                                      (if inb (s3 + (1 : Int32)) nS = true then some (xS (Int32.toNatClampNeg (s3 + (1 : Int32)))) else none).bind fun v309 =>
                                                      (chk u308 (some t2) 12).bind fun b310 =>
                                                      bnd2 (fX12_count t2 v309 u308) fun v311 u312 =>
                                                      if v307 = v311 then
                                                        nm (s3 + 6 : Int32) fun x314 =>
                                                        some (.inl (x314, u312))
                                                      else
                                                        some (.inr (.inr (.inr (.inr (.inr (.inr (.inr (.inr (.inr (.inr (.inr (.inr (.inr (.inr (.inr (.inr (.inr (.inr (.inr (.inr (.inr (.inr (.inr (.inr (.inr (.inr u312))))))))))))))))))))))))))
                                                    else 
                                                      nm (s3 + 6 : Int32) fun x315 =>
                                                      some (.inl (x315, u))
def fL_law (nS : Nat) (xS : Nat → Int32) (u : Mem) : Option (Int32 × Mem) :=
  bnd2 (nwc u 10 8) fun a1 u2 =>
  (fX10_init a1 u2).bind fun u3 =>
  bnd2 (nwc u3 12 56) fun a4 u5 =>
  (fX12_init a4 u5).bind fun u6 =>
  (lp (fun s : Int32 × Mem => bL_law_18 nS xS a1 a4 s.1 s.2) FU ((0 : Int32), u6)).bind fun r316 =>
  sumE r316 (fun r317 =>
    some ((1 : Int32), r317)) (fun r318 =>
    sumE r318 (fun r319 =>
      some ((0 : Int32), r319)) (fun r320 =>
      sumE r320 (fun r321 =>
        some ((0 : Int32), r321)) (fun r322 =>
        sumE r322 (fun r323 =>
          some ((0 : Int32), r323)) (fun r324 =>
          sumE r324 (fun r325 =>
            some ((0 : Int32), r325)) (fun r326 =>
            sumE r326 (fun r327 =>
              some ((0 : Int32), r327)) (fun r328 =>
              sumE r328 (fun r329 =>
                some ((0 : Int32), r329)) (fun r330 =>
                sumE r330 (fun r331 =>
                  some ((0 : Int32), r331)) (fun r332 =>
                  sumE r332 (fun r333 =>
                    some ((0 : Int32), r333)) (fun r334 =>
                    sumE r334 (fun r335 =>
                      some ((0 : Int32), r335)) (fun r336 =>
                      sumE r336 (fun r337 =>
                        some ((0 : Int32), r337)) (fun r338 =>
                        sumE r338 (fun r339 =>
                          some ((0 : Int32), r339)) (fun r340 =>
                          sumE r340 (fun r341 =>
                            some ((0 : Int32), r341)) (fun r342 =>
                            sumE r342 (fun r343 =>
                              some ((0 : Int32), r343)) (fun r344 =>
                              sumE r344 (fun r345 =>
                                some ((0 : Int32), r345)) (fun r346 =>
                                sumE r346 (fun r347 =>
                                  some ((0 : Int32), r347)) (fun r348 =>
                                  sumE r348 (fun r349 =>
                                    some ((0 : Int32), r349)) (fun r350 =>
                                    sumE r350 (fun r351 =>
                                      some ((0 : Int32), r351)) (fun r352 =>
                                      sumE r352 (fun r353 =>
                                        some ((0 : Int32), r353)) (fun r354 =>
                                        sumE r354 (fun r355 =>
                                          some ((0 : Int32), r355)) (fun r356 =>
                                          sumE r356 (fun r357 =>
                                            some ((0 : Int32), r357)) (fun r358 =>
                                            sumE r358 (fun r359 =>
                                              some ((0 : Int32), r359)) (fun r360 =>
                                              sumE r360 (fun r361 =>
                                                some ((0 : Int32), r361)) (fun r362 =>
                                                sumE r362 (fun r363 =>
                                                  some ((0 : Int32), r363)) (fun r364 =>
                                                  sumE r364 (fun r365 =>
                                                    some ((0 : Int32), r365)) (fun r366 =>
                                                    some ((0 : Int32), r366))))))))))))))))))))))))))
theorem btL_law_18 {l : Launch} {G : Gt} {d : Nat} {t1 : Nat} {t2 : Nat} {s3 : Int32} {u : Mem} {y : (Int32 × Mem) ⊕ ((Mem) ⊕ ((Mem) ⊕ ((Mem) ⊕ ((Mem) ⊕ ((Mem) ⊕ ((Mem) ⊕ ((Mem) ⊕ ((Mem) ⊕ ((Mem) ⊕ ((Mem) ⊕ ((Mem) ⊕ ((Mem) ⊕ ((Mem) ⊕ ((Mem) ⊕ ((Mem) ⊕ ((Mem) ⊕ ((Mem) ⊕ ((Mem) ⊕ ((Mem) ⊕ ((Mem) ⊕ ((Mem) ⊕ ((Mem) ⊕ ((Mem) ⊕ ((Mem) ⊕ ((Mem) ⊕ (Mem))))))))))))))))))))))))))} {o : Outcome} {u' : Mem} (h : bL_law_18 (gLn G) (gXs G) t1 t2 s3 u = some y) (k0 : ∀ s' : Int32 × Mem, y = .inl s' → Rn l G iL_law (d + 26) 18 [(0, rv (some 1000050)), (1, rv (some t1)), (2, rv (some t2)), (3, .int s'.1)] [] s'.2 o u') (k1 : ∀ r : Mem, y = .inr (.inl r) → Rn l G iL_law (d + 26) 970 [] [] r o u') (k2 : ∀ r : Mem, y = .inr (.inr (.inl r)) → Rn l G iL_law (d + 26) 209 [] [] r o u') (k3 : ∀ r : Mem, y = .inr (.inr (.inr (.inl r))) → Rn l G iL_law (d + 26) 232 [] [] r o u') (k4 : ∀ r : Mem, y = .inr (.inr (.inr (.inr (.inl r)))) → Rn l G iL_law (d + 26) 245 [] [] r o u') (k5 : ∀ r : Mem, y = .inr (.inr (.inr (.inr (.inr (.inl r))))) → Rn l G iL_law (d + 26) 268 [] [] r o u') (k6 : ∀ r : Mem, y = .inr (.inr (.inr (.inr (.inr (.inr (.inl r)))))) → Rn l G iL_law (d + 26) 291 [] [] r o u') (k7 : ∀ r : Mem, y = .inr (.inr (.inr (.inr (.inr (.inr (.inr (.inl r))))))) → Rn l G iL_law (d + 26) 324 [] [] r o u') (k8 : ∀ r : Mem, y = .inr (.inr (.inr (.inr (.inr (.inr (.inr (.inr (.inl r)))))))) → Rn l G iL_law (d + 26) 367 [] [] r o u') (k9 : ∀ r : Mem, y = .inr (.inr (.inr (.inr (.inr (.inr (.inr (.inr (.inr (.inl r))))))))) → Rn l G iL_law (d + 26) 420 [] [] r o u') (k10 : ∀ r : Mem, y = .inr (.inr (.inr (.inr (.inr (.inr (.inr (.inr (.inr (.inr (.inl r)))))))))) → Rn l G iL_law (d + 26) 463 [] [] r o u') (k11 : ∀ r : Mem, y = .inr (.inr (.inr (.inr (.inr (.inr (.inr (.inr (.inr (.inr (.inr (.inl r))))))))))) → Rn l G iL_law (d + 26) 506 [] [] r o u') (k12 : ∀ r : Mem, y = .inr (.inr (.inr (.inr (.inr (.inr (.inr (.inr (.inr (.inr (.inr (.inr (.inl r)))))))))))) → Rn l G iL_law (d + 26) 539 [] [] r o u') (k13 : ∀ r : Mem, y = .inr (.inr (.inr (.inr (.inr (.inr (.inr (.inr (.inr (.inr (.inr (.inr (.inr (.inl r))))))))))))) → Rn l G iL_law (d + 26) 562 [] [] r o u') (k14 : ∀ r : Mem, y = .inr (.inr (.inr (.inr (.inr (.inr (.inr (.inr (.inr (.inr (.inr (.inr (.inr (.inr (.inl r)))))))))))))) → Rn l G iL_law (d + 26) 585 [] [] r o u') (k15 : ∀ r : Mem, y = .inr (.inr (.inr (.inr (.inr (.inr (.inr (.inr (.inr (.inr (.inr (.inr (.inr (.inr (.inr (.inl r))))))))))))))) → Rn l G iL_law (d + 26) 598 [] [] r o u') (k16 : ∀ r : Mem, y = .inr (.inr (.inr (.inr (.inr (.inr (.inr (.inr (.inr (.inr (.inr (.inr (.inr (.inr (.inr (.inr (.inl r)))))))))))))))) → Rn l G iL_law (d + 26) 631 [] [] r o u') (k17 : ∀ r : Mem, y = .inr (.inr (.inr (.inr (.inr (.inr (.inr (.inr (.inr (.inr (.inr (.inr (.inr (.inr (.inr (.inr (.inr (.inl r))))))))))))))))) → Rn l G iL_law (d + 26) 664 [] [] r o u') (k18 : ∀ r : Mem, y = .inr (.inr (.inr (.inr (.inr (.inr (.inr (.inr (.inr (.inr (.inr (.inr (.inr (.inr (.inr (.inr (.inr (.inr (.inl r)))))))))))))))))) → Rn l G iL_law (d + 26) 697 [] [] r o u') (k19 : ∀ r : Mem, y = .inr (.inr (.inr (.inr (.inr (.inr (.inr (.inr (.inr (.inr (.inr (.inr (.inr (.inr (.inr (.inr (.inr (.inr (.inr (.inl r))))))))))))))))))) → Rn l G iL_law (d + 26) 730 [] [] r o u') (k20 : ∀ r : Mem, y = .inr (.inr (.inr (.inr (.inr (.inr (.inr (.inr (.inr (.inr (.inr (.inr (.inr (.inr (.inr (.inr (.inr (.inr (.inr (.inr (.inl r)))))))))))))))))))) → Rn l G iL_law (d + 26) 764 [] [] r o u') (k21 : ∀ r : Mem, y = .inr (.inr (.inr (.inr (.inr (.inr (.inr (.inr (.inr (.inr (.inr (.inr (.inr (.inr (.inr (.inr (.inr (.inr (.inr (.inr (.inr (.inl r))))))))))))))))))))) → Rn l G iL_law (d + 26) 807 [] [] r o u') (k22 : ∀ r : Mem, y = .inr (.inr (.inr (.inr (.inr (.inr (.inr (.inr (.inr (.inr (.inr (.inr (.inr (.inr (.inr (.inr (.inr (.inr (.inr (.inr (.inr (.inr (.inl r)))))))))))))))))))))) → Rn l G iL_law (d + 26) 840 [] [] r o u') (k23 : ∀ r : Mem, y = .inr (.inr (.inr (.inr (.inr (.inr (.inr (.inr (.inr (.inr (.inr (.inr (.inr (.inr (.inr (.inr (.inr (.inr (.inr (.inr (.inr (.inr (.inr (.inl r))))))))))))))))))))))) → Rn l G iL_law (d + 26) 883 [] [] r o u') (k24 : ∀ r : Mem, y = .inr (.inr (.inr (.inr (.inr (.inr (.inr (.inr (.inr (.inr (.inr (.inr (.inr (.inr (.inr (.inr (.inr (.inr (.inr (.inr (.inr (.inr (.inr (.inr (.inl r)))))))))))))))))))))))) → Rn l G iL_law (d + 26) 906 [] [] r o u') (k25 : ∀ r : Mem, y = .inr (.inr (.inr (.inr (.inr (.inr (.inr (.inr (.inr (.inr (.inr (.inr (.inr (.inr (.inr (.inr (.inr (.inr (.inr (.inr (.inr (.inr (.inr (.inr (.inr (.inl r))))))))))))))))))))))))) → Rn l G iL_law (d + 26) 939 [] [] r o u') (k26 : ∀ r : Mem, y = .inr (.inr (.inr (.inr (.inr (.inr (.inr (.inr (.inr (.inr (.inr (.inr (.inr (.inr (.inr (.inr (.inr (.inr (.inr (.inr (.inr (.inr (.inr (.inr (.inr (.inr (r)))))))))))))))))))))))))) → Rn l G iL_law (d + 26) 962 [] [] r o u') : Rn l G iL_law (d + 26) 18 [(0, rv (some 1000050)), (1, rv (some t1)), (2, rv (some t2)), (3, .int s3)] [] u o u' := by
  unfold bL_law_18 at h
  refine rn_iload_n (pc := 18) 3 dL_law_18 rfl rfl ?_
  refine rn_aload_n (pc := 19) 0 dL_law_19 rfl rfl ?_
  refine rn_slen (pc := 20) dL_law_20 ?_
  refine rn_bipush (pc := 21) (v := 6) dL_law_21 (by decide) ?_
  refine rn_isub (pc := 23) dL_law_23 ?_
  rcases if_elim h with ⟨c7, h1⟩ | ⟨c7, h1⟩
  · refine rn_igt_t (pc := 24) (tgt := 970) dL_law_24 (by decide) c7 ?_
    cases h1
    exact rn_sub [] rfl (k1 _ rfl)
  · refine rn_igt_f (pc := 24) 970 dL_law_24 (by decide) c7 ?_
    refine rn_aload_n (pc := 27) 0 dL_law_27 rfl rfl ?_
    refine rn_iload_n (pc := 28) 3 dL_law_28 rfl rfl ?_
    obtain ⟨v8, hv8, h2⟩ := bnd_some h1
    obtain ⟨hv8, qv8⟩ := ite_some hv8
    refine rn_sld (pc := 29) hv8 dL_law_29 ?_
    refine rn_topi qv8.symm ?_
    refine rn_bipush (pc := 30) (v := 31) dL_law_30 (by decide) ?_
    refine rn_iand (pc := 32) dL_law_32 ?_
    rcases if_elim h2 with ⟨c9, h3⟩ | ⟨c9, h3⟩
    · refine rn_tsw_in (pc := 33) (tgt := 148) (off := 115) 0 dL_law_33 c9 (by decide) (by decide) ?_
      refine rn_aload_n (pc := 148) 1 dL_law_148 rfl rfl ?_
      refine rn_aload_n (pc := 149) 0 dL_law_149 rfl rfl ?_
      refine rn_iload_n (pc := 150) 3 dL_law_150 rfl rfl ?_
      refine rn_iconst (pc := 151) (v := 1) dL_law_151 (by decide) ?_
      refine rn_iadd (pc := 152) dL_law_152 ?_
      obtain ⟨v10, hv10, h4⟩ := bnd_some h3
      obtain ⟨hv10, qv10⟩ := ite_some hv10
      refine rn_sld (pc := 153) hv10 dL_law_153 ?_
      refine rn_topi qv10.symm ?_
      refine rn_aload_n (pc := 154) 0 dL_law_154 rfl rfl ?_
      refine rn_iload_n (pc := 155) 3 dL_law_155 rfl rfl ?_
      refine rn_iconst (pc := 156) (v := 2) dL_law_156 (by decide) ?_
      refine rn_iadd (pc := 157) dL_law_157 ?_
      obtain ⟨v11, hv11, h5⟩ := bnd_some h4
      obtain ⟨hv11, qv11⟩ := ite_some hv11
      refine rn_sld (pc := 158) hv11 dL_law_158 ?_
      refine rn_topi qv11.symm ?_
      refine rn_aload_n (pc := 159) 0 dL_law_159 rfl rfl ?_
      refine rn_iload_n (pc := 160) 3 dL_law_160 rfl rfl ?_
      refine rn_iconst (pc := 161) (v := 3) dL_law_161 (by decide) ?_
      refine rn_iadd (pc := 162) dL_law_162 ?_
      obtain ⟨v12, hv12, h6⟩ := bnd_some h5
      obtain ⟨hv12, qv12⟩ := ite_some hv12
      refine rn_sld (pc := 163) hv12 dL_law_163 ?_
      refine rn_topi qv12.symm ?_
      refine rn_aload_n (pc := 164) 0 dL_law_164 rfl rfl ?_
      refine rn_iload_n (pc := 165) 3 dL_law_165 rfl rfl ?_
      refine rn_iconst (pc := 166) (v := 4) dL_law_166 (by decide) ?_
      refine rn_iadd (pc := 167) dL_law_167 ?_
      obtain ⟨v13, hv13, h7⟩ := bnd_some h6
      obtain ⟨hv13, qv13⟩ := ite_some hv13
      refine rn_sld (pc := 168) hv13 dL_law_168 ?_
      refine rn_topi qv13.symm ?_
      refine rn_aload_n (pc := 169) 0 dL_law_169 rfl rfl ?_
      refine rn_iload_n (pc := 170) 3 dL_law_170 rfl rfl ?_
      refine rn_iconst (pc := 171) (v := 5) dL_law_171 (by decide) ?_
      refine rn_iadd (pc := 172) dL_law_172 ?_
      obtain ⟨v14, hv14, h8⟩ := bnd_some h7
      obtain ⟨hv14, qv14⟩ := ite_some hv14
      refine rn_sld (pc := 173) hv14 dL_law_173 ?_
      refine rn_topi qv14.symm ?_
      obtain ⟨b15, hb15, h9⟩ := bnd_some h8
      obtain ⟨qb15, kb15⟩ := chk_elim hb15
      cases qb15
      obtain ⟨v16, u17, hv16, h10⟩ := bnd2_some h9
      refine rn_callV (pc := 174) (n := 5) (As := [.int v10, .int v11, .int v12, .int v13, .int v14]) (rest := []) (eX10_feed (d := d + 24) hv16) (by omega) okX10 kb15 tw_455 tw_68 tw_452 tw_453 tw_454 (by decide +kernel) rfl (Nat.le_of_ble_eq_true rfl) dL_law_174 rfl ?_
      refine rn_aload_n (pc := 177) 2 dL_law_177 rfl rfl ?_
      refine rn_aload_n (pc := 178) 0 dL_law_178 rfl rfl ?_
      refine rn_iload_n (pc := 179) 3 dL_law_179 rfl rfl ?_
      refine rn_iconst (pc := 180) (v := 1) dL_law_180 (by decide) ?_
      refine rn_iadd (pc := 181) dL_law_181 ?_
      obtain ⟨v18, hv18, h11⟩ := bnd_some h10
      obtain ⟨hv18, qv18⟩ := ite_some hv18
      refine rn_sld (pc := 182) hv18 dL_law_182 ?_
      refine rn_topi qv18.symm ?_
      refine rn_aload_n (pc := 183) 0 dL_law_183 rfl rfl ?_
      refine rn_iload_n (pc := 184) 3 dL_law_184 rfl rfl ?_
      refine rn_iconst (pc := 185) (v := 2) dL_law_185 (by decide) ?_
      refine rn_iadd (pc := 186) dL_law_186 ?_
      obtain ⟨v19, hv19, h12⟩ := bnd_some h11
      obtain ⟨hv19, qv19⟩ := ite_some hv19
      refine rn_sld (pc := 187) hv19 dL_law_187 ?_
      refine rn_topi qv19.symm ?_
      refine rn_aload_n (pc := 188) 0 dL_law_188 rfl rfl ?_
      refine rn_iload_n (pc := 189) 3 dL_law_189 rfl rfl ?_
      refine rn_iconst (pc := 190) (v := 3) dL_law_190 (by decide) ?_
      refine rn_iadd (pc := 191) dL_law_191 ?_
      obtain ⟨v20, hv20, h13⟩ := bnd_some h12
      obtain ⟨hv20, qv20⟩ := ite_some hv20
      refine rn_sld (pc := 192) hv20 dL_law_192 ?_
      refine rn_topi qv20.symm ?_
      refine rn_aload_n (pc := 193) 0 dL_law_193 rfl rfl ?_
      refine rn_iload_n (pc := 194) 3 dL_law_194 rfl rfl ?_
      refine rn_iconst (pc := 195) (v := 4) dL_law_195 (by decide) ?_
      refine rn_iadd (pc := 196) dL_law_196 ?_
      obtain ⟨v21, hv21, h14⟩ := bnd_some h13
      obtain ⟨hv21, qv21⟩ := ite_some hv21
      refine rn_sld (pc := 197) hv21 dL_law_197 ?_
      refine rn_topi qv21.symm ?_
      refine rn_aload_n (pc := 198) 0 dL_law_198 rfl rfl ?_
      refine rn_iload_n (pc := 199) 3 dL_law_199 rfl rfl ?_
      refine rn_iconst (pc := 200) (v := 5) dL_law_200 (by decide) ?_
      refine rn_iadd (pc := 201) dL_law_201 ?_
      obtain ⟨v22, hv22, h15⟩ := bnd_some h14
      obtain ⟨hv22, qv22⟩ := ite_some hv22
      refine rn_sld (pc := 202) hv22 dL_law_202 ?_
      refine rn_topi qv22.symm ?_
      obtain ⟨b23, hb23, h16⟩ := bnd_some h15
      obtain ⟨qb23, kb23⟩ := chk_elim hb23
      cases qb23
      obtain ⟨v24, u25, hv24, h17⟩ := bnd2_some h16
      refine rn_callV (pc := 203) (n := 5) (As := [.int v18, .int v19, .int v20, .int v21, .int v22]) (rest := [.int v16]) (eX12_feed (d := d + 24) hv24) (by omega) okX12 kb23 tw_1167 tw_79 tw_1164 tw_1165 tw_1166 (by decide +kernel) rfl (Nat.le_of_ble_eq_true rfl) dL_law_203 rfl ?_
      rcases if_elim h17 with ⟨c26, h18⟩ | ⟨c26, h18⟩
      · refine rn_ieq_t (pc := 206) (tgt := 964) dL_law_206 (by decide) c26 ?_
        obtain ⟨x27, ex27, h19⟩ := nm_elim h18
        refine rn_iinc (pc := 964) (v := x27) (lv' := [(3, .int x27), (0, rv (some 1000050)), (1, rv (some t1)), (2, rv (some t2))]) 3 dL_law_964 rfl (by rw [ex27]; rfl) (by decide) rfl ?_
        refine rn_goto (pc := 967) (tgt := 18) dL_law_967 (by decide) ?_
        cases h19
        exact rn_sub [1, 2, 3, 0] rfl (k0 _ rfl)
      · refine rn_ieq_f (pc := 206) 964 dL_law_206 (by decide) c26 ?_
        cases h18
        exact rn_sub [] rfl (k2 _ rfl)
    · skip
      rcases if_elim h3 with ⟨c28, h20⟩ | ⟨c28, h20⟩
      · refine rn_tsw_in (pc := 33) (tgt := 211) (off := 178) 1 dL_law_33 c28 (by decide) (by decide) ?_
        refine rn_aload_n (pc := 211) 1 dL_law_211 rfl rfl ?_
        refine rn_aload_n (pc := 212) 0 dL_law_212 rfl rfl ?_
        refine rn_iload_n (pc := 213) 3 dL_law_213 rfl rfl ?_
        refine rn_iconst (pc := 214) (v := 1) dL_law_214 (by decide) ?_
        refine rn_iadd (pc := 215) dL_law_215 ?_
        obtain ⟨v29, hv29, h21⟩ := bnd_some h20
        obtain ⟨hv29, qv29⟩ := ite_some hv29
        refine rn_sld (pc := 216) hv29 dL_law_216 ?_
        refine rn_topi qv29.symm ?_
        obtain ⟨b30, hb30, h22⟩ := bnd_some h21
        obtain ⟨qb30, kb30⟩ := chk_elim hb30
        cases qb30
        obtain ⟨v31, u32, hv31, h23⟩ := bnd2_some h22
        refine rn_callV (pc := 217) (n := 1) (As := [.int v29]) (rest := []) (eX10_end (d := d + 25) hv31) (by omega) okX10 kb30 tw_463 tw_68 tw_460 tw_461 tw_462 (by decide +kernel) rfl (Nat.le_of_ble_eq_true rfl) dL_law_217 rfl ?_
        refine rn_aload_n (pc := 220) 2 dL_law_220 rfl rfl ?_
        refine rn_aload_n (pc := 221) 0 dL_law_221 rfl rfl ?_
        refine rn_iload_n (pc := 222) 3 dL_law_222 rfl rfl ?_
        refine rn_iconst (pc := 223) (v := 1) dL_law_223 (by decide) ?_
        refine rn_iadd (pc := 224) dL_law_224 ?_
        obtain ⟨v33, hv33, h24⟩ := bnd_some h23
        obtain ⟨hv33, qv33⟩ := ite_some hv33
        refine rn_sld (pc := 225) hv33 dL_law_225 ?_
        refine rn_topi qv33.symm ?_
        obtain ⟨b34, hb34, h25⟩ := bnd_some h24
        obtain ⟨qb34, kb34⟩ := chk_elim hb34
        cases qb34
        obtain ⟨v35, u36, hv35, h26⟩ := bnd2_some h25
        refine rn_callV (pc := 226) (n := 1) (As := [.int v33]) (rest := [.int v31]) (eX12_end (d := d + 24) hv35) (by omega) okX12 kb34 tw_1174 tw_79 tw_1171 tw_1172 tw_1173 (by decide +kernel) rfl (Nat.le_of_ble_eq_true rfl) dL_law_226 rfl ?_
        rcases if_elim h26 with ⟨c37, h27⟩ | ⟨c37, h27⟩
        · refine rn_ieq_t (pc := 229) (tgt := 964) dL_law_229 (by decide) c37 ?_
          obtain ⟨x38, ex38, h28⟩ := nm_elim h27
          refine rn_iinc (pc := 964) (v := x38) (lv' := [(3, .int x38), (0, rv (some 1000050)), (1, rv (some t1)), (2, rv (some t2))]) 3 dL_law_964 rfl (by rw [ex38]; rfl) (by decide) rfl ?_
          refine rn_goto (pc := 967) (tgt := 18) dL_law_967 (by decide) ?_
          cases h28
          exact rn_sub [1, 2, 3, 0] rfl (k0 _ rfl)
        · refine rn_ieq_f (pc := 229) 964 dL_law_229 (by decide) c37 ?_
          cases h27
          exact rn_sub [] rfl (k3 _ rfl)
      · skip
        rcases if_elim h20 with ⟨c39, h29⟩ | ⟨c39, h29⟩
        · refine rn_tsw_in (pc := 33) (tgt := 234) (off := 201) 2 dL_law_33 c39 (by decide) (by decide) ?_
          refine rn_aload_n (pc := 234) 1 dL_law_234 rfl rfl ?_
          obtain ⟨b40, hb40, h30⟩ := bnd_some h29
          obtain ⟨qb40, kb40⟩ := chk_elim hb40
          cases qb40
          obtain ⟨v41, u42, hv41, h31⟩ := bnd2_some h30
          refine rn_callV (pc := 235) (n := 0) (As := []) (rest := []) (eX10_rules (d := d + 16) hv41) (by omega) okX10 kb40 tw_467 tw_68 tw_464 tw_465 tw_466 (by decide +kernel) rfl (Nat.le_of_ble_eq_true rfl) dL_law_235 rfl ?_
          refine rn_aload_n (pc := 238) 2 dL_law_238 rfl rfl ?_
          obtain ⟨b43, hb43, h32⟩ := bnd_some h31
          obtain ⟨qb43, kb43⟩ := chk_elim hb43
          cases qb43
          obtain ⟨v44, u45, hv44, h33⟩ := bnd2_some h32
          refine rn_callVW (pc := 239) (n := 0) (As := []) (rest := [.int v41]) (eX12_rules (d := d + 17) hv44) (by omega) okX12 kb43 tw_1181 tw_79 tw_1178 tw_1179 tw_1180 (by decide +kernel) rfl (Nat.le_of_ble_eq_true rfl) dL_law_239 rfl ?_
          rcases if_elim h33 with ⟨c46, h34⟩ | ⟨c46, h34⟩
          · refine rn_ieq_t (pc := 242) (tgt := 964) dL_law_242 (by decide) c46 ?_
            obtain ⟨x47, ex47, h35⟩ := nm_elim h34
            refine rn_iinc (pc := 964) (v := x47) (lv' := [(3, .int x47), (0, rv (some 1000050)), (1, rv (some t1)), (2, rv (some t2))]) 3 dL_law_964 rfl (by rw [ex47]; rfl) (by decide) rfl ?_
            refine rn_goto (pc := 967) (tgt := 18) dL_law_967 (by decide) ?_
            cases h35
            exact rn_sub [1, 2, 3, 0] rfl (k0 _ rfl)
          · refine rn_ieq_f (pc := 242) 964 dL_law_242 (by decide) c46 ?_
            cases h34
            exact rn_sub [] rfl (k4 _ rfl)
        · skip
          rcases if_elim h29 with ⟨c48, h36⟩ | ⟨c48, h36⟩
          · refine rn_tsw_in (pc := 33) (tgt := 247) (off := 214) 3 dL_law_33 c48 (by decide) (by decide) ?_
            refine rn_aload_n (pc := 247) 1 dL_law_247 rfl rfl ?_
            refine rn_aload_n (pc := 248) 0 dL_law_248 rfl rfl ?_
            refine rn_iload_n (pc := 249) 3 dL_law_249 rfl rfl ?_
            refine rn_iconst (pc := 250) (v := 1) dL_law_250 (by decide) ?_
            refine rn_iadd (pc := 251) dL_law_251 ?_
            obtain ⟨v49, hv49, h37⟩ := bnd_some h36
            obtain ⟨hv49, qv49⟩ := ite_some hv49
            refine rn_sld (pc := 252) hv49 dL_law_252 ?_
            refine rn_topi qv49.symm ?_
            obtain ⟨b50, hb50, h38⟩ := bnd_some h37
            obtain ⟨qb50, kb50⟩ := chk_elim hb50
            cases qb50
            obtain ⟨v51, hv51, h39⟩ := bnd_some h38
            refine rn_callV (pc := 253) (n := 1) (As := [.int v49]) (rest := []) (eX10_fault (d := d + 25) hv51) (by omega) okX10 kb50 tw_565 tw_68 tw_562 tw_563 tw_564 (by decide +kernel) rfl (Nat.le_of_ble_eq_true rfl) dL_law_253 rfl ?_
            refine rn_aload_n (pc := 256) 2 dL_law_256 rfl rfl ?_
            refine rn_aload_n (pc := 257) 0 dL_law_257 rfl rfl ?_
            refine rn_iload_n (pc := 258) 3 dL_law_258 rfl rfl ?_
            refine rn_iconst (pc := 259) (v := 1) dL_law_259 (by decide) ?_
            refine rn_iadd (pc := 260) dL_law_260 ?_
            obtain ⟨v52, hv52, h40⟩ := bnd_some h39
            obtain ⟨hv52, qv52⟩ := ite_some hv52
            refine rn_sld (pc := 261) hv52 dL_law_261 ?_
            refine rn_topi qv52.symm ?_
            obtain ⟨b53, hb53, h41⟩ := bnd_some h40
            obtain ⟨qb53, kb53⟩ := chk_elim hb53
            cases qb53
            obtain ⟨v54, hv54, h42⟩ := bnd_some h41
            refine rn_callV (pc := 262) (n := 1) (As := [.int v52]) (rest := [.int v51]) (eX12_fault (d := d + 25) hv54) (by omega) okX12 kb53 tw_1220 tw_79 tw_1217 tw_1218 tw_1219 (by decide +kernel) rfl (Nat.le_of_ble_eq_true rfl) dL_law_262 rfl ?_
            rcases if_elim h42 with ⟨c55, h43⟩ | ⟨c55, h43⟩
            · refine rn_ieq_t (pc := 265) (tgt := 964) dL_law_265 (by decide) c55 ?_
              obtain ⟨x56, ex56, h44⟩ := nm_elim h43
              refine rn_iinc (pc := 964) (v := x56) (lv' := [(3, .int x56), (0, rv (some 1000050)), (1, rv (some t1)), (2, rv (some t2))]) 3 dL_law_964 rfl (by rw [ex56]; rfl) (by decide) rfl ?_
              refine rn_goto (pc := 967) (tgt := 18) dL_law_967 (by decide) ?_
              cases h44
              exact rn_sub [1, 2, 3, 0] rfl (k0 _ rfl)
            · refine rn_ieq_f (pc := 265) 964 dL_law_265 (by decide) c55 ?_
              cases h43
              exact rn_sub [] rfl (k5 _ rfl)
          · skip
            rcases if_elim h36 with ⟨c57, h45⟩ | ⟨c57, h45⟩
            · refine rn_tsw_in (pc := 33) (tgt := 270) (off := 237) 4 dL_law_33 c57 (by decide) (by decide) ?_
              refine rn_aload_n (pc := 270) 1 dL_law_270 rfl rfl ?_
              refine rn_aload_n (pc := 271) 0 dL_law_271 rfl rfl ?_
              refine rn_iload_n (pc := 272) 3 dL_law_272 rfl rfl ?_
              refine rn_iconst (pc := 273) (v := 1) dL_law_273 (by decide) ?_
              refine rn_iadd (pc := 274) dL_law_274 ?_
              obtain ⟨v58, hv58, h46⟩ := bnd_some h45
              obtain ⟨hv58, qv58⟩ := ite_some hv58
              refine rn_sld (pc := 275) hv58 dL_law_275 ?_
              refine rn_topi qv58.symm ?_
              obtain ⟨b59, hb59, h47⟩ := bnd_some h46
              obtain ⟨qb59, kb59⟩ := chk_elim hb59
              cases qb59
              obtain ⟨v60, hv60, h48⟩ := bnd_some h47
              refine rn_callV (pc := 276) (n := 1) (As := [.int v58]) (rest := []) (eX10_rule (d := d + 25) hv60) (by omega) okX10 kb59 tw_569 tw_68 tw_566 tw_567 tw_568 (by decide +kernel) rfl (Nat.le_of_ble_eq_true rfl) dL_law_276 rfl ?_
              refine rn_aload_n (pc := 279) 2 dL_law_279 rfl rfl ?_
              refine rn_aload_n (pc := 280) 0 dL_law_280 rfl rfl ?_
              refine rn_iload_n (pc := 281) 3 dL_law_281 rfl rfl ?_
              refine rn_iconst (pc := 282) (v := 1) dL_law_282 (by decide) ?_
              refine rn_iadd (pc := 283) dL_law_283 ?_
              obtain ⟨v61, hv61, h49⟩ := bnd_some h48
              obtain ⟨hv61, qv61⟩ := ite_some hv61
              refine rn_sld (pc := 284) hv61 dL_law_284 ?_
              refine rn_topi qv61.symm ?_
              obtain ⟨b62, hb62, h50⟩ := bnd_some h49
              obtain ⟨qb62, kb62⟩ := chk_elim hb62
              cases qb62
              obtain ⟨v63, hv63, h51⟩ := bnd_some h50
              refine rn_callV (pc := 285) (n := 1) (As := [.int v61]) (rest := [.int v60]) (eX12_rule (d := d + 24) hv63) (by omega) okX12 kb62 tw_1224 tw_79 tw_1221 tw_1222 tw_1223 (by decide +kernel) rfl (Nat.le_of_ble_eq_true rfl) dL_law_285 rfl ?_
              rcases if_elim h51 with ⟨c64, h52⟩ | ⟨c64, h52⟩
              · refine rn_ieq_t (pc := 288) (tgt := 964) dL_law_288 (by decide) c64 ?_
                obtain ⟨x65, ex65, h53⟩ := nm_elim h52
                refine rn_iinc (pc := 964) (v := x65) (lv' := [(3, .int x65), (0, rv (some 1000050)), (1, rv (some t1)), (2, rv (some t2))]) 3 dL_law_964 rfl (by rw [ex65]; rfl) (by decide) rfl ?_
                refine rn_goto (pc := 967) (tgt := 18) dL_law_967 (by decide) ?_
                cases h53
                exact rn_sub [1, 2, 3, 0] rfl (k0 _ rfl)
              · refine rn_ieq_f (pc := 288) 964 dL_law_288 (by decide) c64 ?_
                cases h52
                exact rn_sub [] rfl (k6 _ rfl)
            · skip
              rcases if_elim h45 with ⟨c66, h54⟩ | ⟨c66, h54⟩
              · refine rn_tsw_in (pc := 33) (tgt := 293) (off := 260) 5 dL_law_33 c66 (by decide) (by decide) ?_
                refine rn_aload_n (pc := 293) 1 dL_law_293 rfl rfl ?_
                refine rn_aload_n (pc := 294) 0 dL_law_294 rfl rfl ?_
                refine rn_iload_n (pc := 295) 3 dL_law_295 rfl rfl ?_
                refine rn_iconst (pc := 296) (v := 1) dL_law_296 (by decide) ?_
                refine rn_iadd (pc := 297) dL_law_297 ?_
                obtain ⟨v67, hv67, h55⟩ := bnd_some h54
                obtain ⟨hv67, qv67⟩ := ite_some hv67
                refine rn_sld (pc := 298) hv67 dL_law_298 ?_
                refine rn_topi qv67.symm ?_
                refine rn_aload_n (pc := 299) 0 dL_law_299 rfl rfl ?_
                refine rn_iload_n (pc := 300) 3 dL_law_300 rfl rfl ?_
                refine rn_iconst (pc := 301) (v := 2) dL_law_301 (by decide) ?_
                refine rn_iadd (pc := 302) dL_law_302 ?_
                obtain ⟨v68, hv68, h56⟩ := bnd_some h55
                obtain ⟨hv68, qv68⟩ := ite_some hv68
                refine rn_sld (pc := 303) hv68 dL_law_303 ?_
                refine rn_topi qv68.symm ?_
                obtain ⟨b69, hb69, h57⟩ := bnd_some h56
                obtain ⟨qb69, kb69⟩ := chk_elim hb69
                cases qb69
                obtain ⟨v70, u71, hv70, h58⟩ := bnd2_some h57
                refine rn_callV (pc := 304) (n := 2) (As := [.int v67, .int v68]) (rest := []) (eX10_question (d := d + 24) hv70) (by omega) okX10 kb69 tw_573 tw_68 tw_570 tw_571 tw_572 (by decide +kernel) rfl (Nat.le_of_ble_eq_true rfl) dL_law_304 rfl ?_
                refine rn_aload_n (pc := 307) 2 dL_law_307 rfl rfl ?_
                refine rn_aload_n (pc := 308) 0 dL_law_308 rfl rfl ?_
                refine rn_iload_n (pc := 309) 3 dL_law_309 rfl rfl ?_
                refine rn_iconst (pc := 310) (v := 1) dL_law_310 (by decide) ?_
                refine rn_iadd (pc := 311) dL_law_311 ?_
                obtain ⟨v72, hv72, h59⟩ := bnd_some h58
                obtain ⟨hv72, qv72⟩ := ite_some hv72
                refine rn_sld (pc := 312) hv72 dL_law_312 ?_
                refine rn_topi qv72.symm ?_
                refine rn_aload_n (pc := 313) 0 dL_law_313 rfl rfl ?_
                refine rn_iload_n (pc := 314) 3 dL_law_314 rfl rfl ?_
                refine rn_iconst (pc := 315) (v := 2) dL_law_315 (by decide) ?_
                refine rn_iadd (pc := 316) dL_law_316 ?_
                obtain ⟨v73, hv73, h60⟩ := bnd_some h59
                obtain ⟨hv73, qv73⟩ := ite_some hv73
                refine rn_sld (pc := 317) hv73 dL_law_317 ?_
                refine rn_topi qv73.symm ?_
                obtain ⟨b74, hb74, h61⟩ := bnd_some h60
                obtain ⟨qb74, kb74⟩ := chk_elim hb74
                cases qb74
                obtain ⟨v75, u76, hv75, h62⟩ := bnd2_some h61
                refine rn_callV (pc := 318) (n := 2) (As := [.int v72, .int v73]) (rest := [.int v70]) (eX12_question (d := d + 23) hv75) (by omega) okX12 kb74 tw_1232 tw_79 tw_1229 tw_1230 tw_1231 (by decide +kernel) rfl (Nat.le_of_ble_eq_true rfl) dL_law_318 rfl ?_
                rcases if_elim h62 with ⟨c77, h63⟩ | ⟨c77, h63⟩
                · refine rn_ieq_t (pc := 321) (tgt := 964) dL_law_321 (by decide) c77 ?_
                  obtain ⟨x78, ex78, h64⟩ := nm_elim h63
                  refine rn_iinc (pc := 964) (v := x78) (lv' := [(3, .int x78), (0, rv (some 1000050)), (1, rv (some t1)), (2, rv (some t2))]) 3 dL_law_964 rfl (by rw [ex78]; rfl) (by decide) rfl ?_
                  refine rn_goto (pc := 967) (tgt := 18) dL_law_967 (by decide) ?_
                  cases h64
                  exact rn_sub [1, 2, 3, 0] rfl (k0 _ rfl)
                · refine rn_ieq_f (pc := 321) 964 dL_law_321 (by decide) c77 ?_
                  cases h63
                  exact rn_sub [] rfl (k7 _ rfl)
              · skip
                rcases if_elim h54 with ⟨c79, h65⟩ | ⟨c79, h65⟩
                · refine rn_tsw_in (pc := 33) (tgt := 326) (off := 293) 6 dL_law_33 c79 (by decide) (by decide) ?_
                  refine rn_aload_n (pc := 326) 1 dL_law_326 rfl rfl ?_
                  refine rn_aload_n (pc := 327) 0 dL_law_327 rfl rfl ?_
                  refine rn_iload_n (pc := 328) 3 dL_law_328 rfl rfl ?_
                  refine rn_iconst (pc := 329) (v := 1) dL_law_329 (by decide) ?_
                  refine rn_iadd (pc := 330) dL_law_330 ?_
                  obtain ⟨v80, hv80, h66⟩ := bnd_some h65
                  obtain ⟨hv80, qv80⟩ := ite_some hv80
                  refine rn_sld (pc := 331) hv80 dL_law_331 ?_
                  refine rn_topi qv80.symm ?_
                  refine rn_aload_n (pc := 332) 0 dL_law_332 rfl rfl ?_
                  refine rn_iload_n (pc := 333) 3 dL_law_333 rfl rfl ?_
                  refine rn_iconst (pc := 334) (v := 2) dL_law_334 (by decide) ?_
                  refine rn_iadd (pc := 335) dL_law_335 ?_
                  obtain ⟨v81, hv81, h67⟩ := bnd_some h66
                  obtain ⟨hv81, qv81⟩ := ite_some hv81
                  refine rn_sld (pc := 336) hv81 dL_law_336 ?_
                  refine rn_topi qv81.symm ?_
                  refine rn_aload_n (pc := 337) 0 dL_law_337 rfl rfl ?_
                  refine rn_iload_n (pc := 338) 3 dL_law_338 rfl rfl ?_
                  refine rn_iconst (pc := 339) (v := 3) dL_law_339 (by decide) ?_
                  refine rn_iadd (pc := 340) dL_law_340 ?_
                  obtain ⟨v82, hv82, h68⟩ := bnd_some h67
                  obtain ⟨hv82, qv82⟩ := ite_some hv82
                  refine rn_sld (pc := 341) hv82 dL_law_341 ?_
                  refine rn_topi qv82.symm ?_
                  obtain ⟨b83, hb83, h69⟩ := bnd_some h68
                  obtain ⟨qb83, kb83⟩ := chk_elim hb83
                  cases qb83
                  obtain ⟨v84, u85, hv84, h70⟩ := bnd2_some h69
                  refine rn_callV (pc := 342) (n := 3) (As := [.int v80, .int v81, .int v82]) (rest := []) (eX10_tell (d := d + 24) hv84) (by omega) okX10 kb83 tw_584 tw_68 tw_581 tw_582 tw_583 (by decide +kernel) rfl (Nat.le_of_ble_eq_true rfl) dL_law_342 rfl ?_
                  refine rn_aload_n (pc := 345) 2 dL_law_345 rfl rfl ?_
                  refine rn_aload_n (pc := 346) 0 dL_law_346 rfl rfl ?_
                  refine rn_iload_n (pc := 347) 3 dL_law_347 rfl rfl ?_
                  refine rn_iconst (pc := 348) (v := 1) dL_law_348 (by decide) ?_
                  refine rn_iadd (pc := 349) dL_law_349 ?_
                  obtain ⟨v86, hv86, h71⟩ := bnd_some h70
                  obtain ⟨hv86, qv86⟩ := ite_some hv86
                  refine rn_sld (pc := 350) hv86 dL_law_350 ?_
                  refine rn_topi qv86.symm ?_
                  refine rn_aload_n (pc := 351) 0 dL_law_351 rfl rfl ?_
                  refine rn_iload_n (pc := 352) 3 dL_law_352 rfl rfl ?_
                  refine rn_iconst (pc := 353) (v := 2) dL_law_353 (by decide) ?_
                  refine rn_iadd (pc := 354) dL_law_354 ?_
                  obtain ⟨v87, hv87, h72⟩ := bnd_some h71
                  obtain ⟨hv87, qv87⟩ := ite_some hv87
                  refine rn_sld (pc := 355) hv87 dL_law_355 ?_
                  refine rn_topi qv87.symm ?_
                  refine rn_aload_n (pc := 356) 0 dL_law_356 rfl rfl ?_
                  refine rn_iload_n (pc := 357) 3 dL_law_357 rfl rfl ?_
                  refine rn_iconst (pc := 358) (v := 3) dL_law_358 (by decide) ?_
                  refine rn_iadd (pc := 359) dL_law_359 ?_
                  obtain ⟨v88, hv88, h73⟩ := bnd_some h72
                  obtain ⟨hv88, qv88⟩ := ite_some hv88
                  refine rn_sld (pc := 360) hv88 dL_law_360 ?_
                  refine rn_topi qv88.symm ?_
                  obtain ⟨b89, hb89, h74⟩ := bnd_some h73
                  obtain ⟨qb89, kb89⟩ := chk_elim hb89
                  cases qb89
                  obtain ⟨v90, u91, hv90, h75⟩ := bnd2_some h74
                  refine rn_callV (pc := 361) (n := 3) (As := [.int v86, .int v87, .int v88]) (rest := [.int v84]) (eX12_tell (d := d + 23) hv90) (by omega) okX12 kb89 tw_1240 tw_79 tw_1237 tw_1238 tw_1239 (by decide +kernel) rfl (Nat.le_of_ble_eq_true rfl) dL_law_361 rfl ?_
                  rcases if_elim h75 with ⟨c92, h76⟩ | ⟨c92, h76⟩
                  · refine rn_ieq_t (pc := 364) (tgt := 964) dL_law_364 (by decide) c92 ?_
                    obtain ⟨x93, ex93, h77⟩ := nm_elim h76
                    refine rn_iinc (pc := 964) (v := x93) (lv' := [(3, .int x93), (0, rv (some 1000050)), (1, rv (some t1)), (2, rv (some t2))]) 3 dL_law_964 rfl (by rw [ex93]; rfl) (by decide) rfl ?_
                    refine rn_goto (pc := 967) (tgt := 18) dL_law_967 (by decide) ?_
                    cases h77
                    exact rn_sub [1, 2, 3, 0] rfl (k0 _ rfl)
                  · refine rn_ieq_f (pc := 364) 964 dL_law_364 (by decide) c92 ?_
                    cases h76
                    exact rn_sub [] rfl (k8 _ rfl)
                · skip
                  rcases if_elim h65 with ⟨c94, h78⟩ | ⟨c94, h78⟩
                  · refine rn_tsw_in (pc := 33) (tgt := 369) (off := 336) 7 dL_law_33 c94 (by decide) (by decide) ?_
                    refine rn_aload_n (pc := 369) 1 dL_law_369 rfl rfl ?_
                    refine rn_aload_n (pc := 370) 0 dL_law_370 rfl rfl ?_
                    refine rn_iload_n (pc := 371) 3 dL_law_371 rfl rfl ?_
                    refine rn_iconst (pc := 372) (v := 1) dL_law_372 (by decide) ?_
                    refine rn_iadd (pc := 373) dL_law_373 ?_
                    obtain ⟨v95, hv95, h79⟩ := bnd_some h78
                    obtain ⟨hv95, qv95⟩ := ite_some hv95
                    refine rn_sld (pc := 374) hv95 dL_law_374 ?_
                    refine rn_topi qv95.symm ?_
                    refine rn_aload_n (pc := 375) 0 dL_law_375 rfl rfl ?_
                    refine rn_iload_n (pc := 376) 3 dL_law_376 rfl rfl ?_
                    refine rn_iconst (pc := 377) (v := 2) dL_law_377 (by decide) ?_
                    refine rn_iadd (pc := 378) dL_law_378 ?_
                    obtain ⟨v96, hv96, h80⟩ := bnd_some h79
                    obtain ⟨hv96, qv96⟩ := ite_some hv96
                    refine rn_sld (pc := 379) hv96 dL_law_379 ?_
                    refine rn_topi qv96.symm ?_
                    refine rn_aload_n (pc := 380) 0 dL_law_380 rfl rfl ?_
                    refine rn_iload_n (pc := 381) 3 dL_law_381 rfl rfl ?_
                    refine rn_iconst (pc := 382) (v := 3) dL_law_382 (by decide) ?_
                    refine rn_iadd (pc := 383) dL_law_383 ?_
                    obtain ⟨v97, hv97, h81⟩ := bnd_some h80
                    obtain ⟨hv97, qv97⟩ := ite_some hv97
                    refine rn_sld (pc := 384) hv97 dL_law_384 ?_
                    refine rn_topi qv97.symm ?_
                    refine rn_aload_n (pc := 385) 0 dL_law_385 rfl rfl ?_
                    refine rn_iload_n (pc := 386) 3 dL_law_386 rfl rfl ?_
                    refine rn_iconst (pc := 387) (v := 4) dL_law_387 (by decide) ?_
                    refine rn_iadd (pc := 388) dL_law_388 ?_
                    obtain ⟨v98, hv98, h82⟩ := bnd_some h81
                    obtain ⟨hv98, qv98⟩ := ite_some hv98
                    refine rn_sld (pc := 389) hv98 dL_law_389 ?_
                    refine rn_topi qv98.symm ?_
                    obtain ⟨b99, hb99, h83⟩ := bnd_some h82
                    obtain ⟨qb99, kb99⟩ := chk_elim hb99
                    cases qb99
                    obtain ⟨v100, u101, hv100, h84⟩ := bnd2_some h83
                    refine rn_callV (pc := 390) (n := 4) (As := [.int v95, .int v96, .int v97, .int v98]) (rest := []) (eX10_guess (d := d + 22) hv100) (by omega) okX10 kb99 tw_592 tw_68 tw_589 tw_590 tw_591 (by decide +kernel) rfl (Nat.le_of_ble_eq_true rfl) dL_law_390 rfl ?_
                    refine rn_aload_n (pc := 393) 2 dL_law_393 rfl rfl ?_
                    refine rn_aload_n (pc := 394) 0 dL_law_394 rfl rfl ?_
                    refine rn_iload_n (pc := 395) 3 dL_law_395 rfl rfl ?_
                    refine rn_iconst (pc := 396) (v := 1) dL_law_396 (by decide) ?_
                    refine rn_iadd (pc := 397) dL_law_397 ?_
                    obtain ⟨v102, hv102, h85⟩ := bnd_some h84
                    obtain ⟨hv102, qv102⟩ := ite_some hv102
                    refine rn_sld (pc := 398) hv102 dL_law_398 ?_
                    refine rn_topi qv102.symm ?_
                    refine rn_aload_n (pc := 399) 0 dL_law_399 rfl rfl ?_
                    refine rn_iload_n (pc := 400) 3 dL_law_400 rfl rfl ?_
                    refine rn_iconst (pc := 401) (v := 2) dL_law_401 (by decide) ?_
                    refine rn_iadd (pc := 402) dL_law_402 ?_
                    obtain ⟨v103, hv103, h86⟩ := bnd_some h85
                    obtain ⟨hv103, qv103⟩ := ite_some hv103
                    refine rn_sld (pc := 403) hv103 dL_law_403 ?_
                    refine rn_topi qv103.symm ?_
                    refine rn_aload_n (pc := 404) 0 dL_law_404 rfl rfl ?_
                    refine rn_iload_n (pc := 405) 3 dL_law_405 rfl rfl ?_
                    refine rn_iconst (pc := 406) (v := 3) dL_law_406 (by decide) ?_
                    refine rn_iadd (pc := 407) dL_law_407 ?_
                    obtain ⟨v104, hv104, h87⟩ := bnd_some h86
                    obtain ⟨hv104, qv104⟩ := ite_some hv104
                    refine rn_sld (pc := 408) hv104 dL_law_408 ?_
                    refine rn_topi qv104.symm ?_
                    refine rn_aload_n (pc := 409) 0 dL_law_409 rfl rfl ?_
                    refine rn_iload_n (pc := 410) 3 dL_law_410 rfl rfl ?_
                    refine rn_iconst (pc := 411) (v := 4) dL_law_411 (by decide) ?_
                    refine rn_iadd (pc := 412) dL_law_412 ?_
                    obtain ⟨v105, hv105, h88⟩ := bnd_some h87
                    obtain ⟨hv105, qv105⟩ := ite_some hv105
                    refine rn_sld (pc := 413) hv105 dL_law_413 ?_
                    refine rn_topi qv105.symm ?_
                    obtain ⟨b106, hb106, h89⟩ := bnd_some h88
                    obtain ⟨qb106, kb106⟩ := chk_elim hb106
                    cases qb106
                    obtain ⟨v107, u108, hv107, h90⟩ := bnd2_some h89
                    refine rn_callV (pc := 414) (n := 4) (As := [.int v102, .int v103, .int v104, .int v105]) (rest := [.int v100]) (eX12_guess (d := d + 23) hv107) (by omega) okX12 kb106 tw_1248 tw_79 tw_1245 tw_1246 tw_1247 (by decide +kernel) rfl (Nat.le_of_ble_eq_true rfl) dL_law_414 rfl ?_
                    rcases if_elim h90 with ⟨c109, h91⟩ | ⟨c109, h91⟩
                    · refine rn_ieq_t (pc := 417) (tgt := 964) dL_law_417 (by decide) c109 ?_
                      obtain ⟨x110, ex110, h92⟩ := nm_elim h91
                      refine rn_iinc (pc := 964) (v := x110) (lv' := [(3, .int x110), (0, rv (some 1000050)), (1, rv (some t1)), (2, rv (some t2))]) 3 dL_law_964 rfl (by rw [ex110]; rfl) (by decide) rfl ?_
                      refine rn_goto (pc := 967) (tgt := 18) dL_law_967 (by decide) ?_
                      cases h92
                      exact rn_sub [1, 2, 3, 0] rfl (k0 _ rfl)
                    · refine rn_ieq_f (pc := 417) 964 dL_law_417 (by decide) c109 ?_
                      cases h91
                      exact rn_sub [] rfl (k9 _ rfl)
                  · skip
                    rcases if_elim h78 with ⟨c111, h93⟩ | ⟨c111, h93⟩
                    · refine rn_tsw_in (pc := 33) (tgt := 422) (off := 389) 8 dL_law_33 c111 (by decide) (by decide) ?_
                      refine rn_aload_n (pc := 422) 1 dL_law_422 rfl rfl ?_
                      refine rn_aload_n (pc := 423) 0 dL_law_423 rfl rfl ?_
                      refine rn_iload_n (pc := 424) 3 dL_law_424 rfl rfl ?_
                      refine rn_iconst (pc := 425) (v := 1) dL_law_425 (by decide) ?_
                      refine rn_iadd (pc := 426) dL_law_426 ?_
                      obtain ⟨v112, hv112, h94⟩ := bnd_some h93
                      obtain ⟨hv112, qv112⟩ := ite_some hv112
                      refine rn_sld (pc := 427) hv112 dL_law_427 ?_
                      refine rn_topi qv112.symm ?_
                      refine rn_aload_n (pc := 428) 0 dL_law_428 rfl rfl ?_
                      refine rn_iload_n (pc := 429) 3 dL_law_429 rfl rfl ?_
                      refine rn_iconst (pc := 430) (v := 2) dL_law_430 (by decide) ?_
                      refine rn_iadd (pc := 431) dL_law_431 ?_
                      obtain ⟨v113, hv113, h95⟩ := bnd_some h94
                      obtain ⟨hv113, qv113⟩ := ite_some hv113
                      refine rn_sld (pc := 432) hv113 dL_law_432 ?_
                      refine rn_topi qv113.symm ?_
                      refine rn_aload_n (pc := 433) 0 dL_law_433 rfl rfl ?_
                      refine rn_iload_n (pc := 434) 3 dL_law_434 rfl rfl ?_
                      refine rn_iconst (pc := 435) (v := 3) dL_law_435 (by decide) ?_
                      refine rn_iadd (pc := 436) dL_law_436 ?_
                      obtain ⟨v114, hv114, h96⟩ := bnd_some h95
                      obtain ⟨hv114, qv114⟩ := ite_some hv114
                      refine rn_sld (pc := 437) hv114 dL_law_437 ?_
                      refine rn_topi qv114.symm ?_
                      obtain ⟨b115, hb115, h97⟩ := bnd_some h96
                      obtain ⟨qb115, kb115⟩ := chk_elim hb115
                      cases qb115
                      obtain ⟨v116, hv116, h98⟩ := bnd_some h97
                      refine rn_callV (pc := 438) (n := 3) (As := [.int v112, .int v113, .int v114]) (rest := []) (eX10_holds (d := d + 23) hv116) (by omega) okX10 kb115 tw_646 tw_68 tw_643 tw_644 tw_645 (by decide +kernel) rfl (Nat.le_of_ble_eq_true rfl) dL_law_438 rfl ?_
                      refine rn_aload_n (pc := 441) 2 dL_law_441 rfl rfl ?_
                      refine rn_aload_n (pc := 442) 0 dL_law_442 rfl rfl ?_
                      refine rn_iload_n (pc := 443) 3 dL_law_443 rfl rfl ?_
                      refine rn_iconst (pc := 444) (v := 1) dL_law_444 (by decide) ?_
                      refine rn_iadd (pc := 445) dL_law_445 ?_
                      obtain ⟨v117, hv117, h99⟩ := bnd_some h98
                      obtain ⟨hv117, qv117⟩ := ite_some hv117
                      refine rn_sld (pc := 446) hv117 dL_law_446 ?_
                      refine rn_topi qv117.symm ?_
                      refine rn_aload_n (pc := 447) 0 dL_law_447 rfl rfl ?_
                      refine rn_iload_n (pc := 448) 3 dL_law_448 rfl rfl ?_
                      refine rn_iconst (pc := 449) (v := 2) dL_law_449 (by decide) ?_
                      refine rn_iadd (pc := 450) dL_law_450 ?_
                      obtain ⟨v118, hv118, h100⟩ := bnd_some h99
                      obtain ⟨hv118, qv118⟩ := ite_some hv118
                      refine rn_sld (pc := 451) hv118 dL_law_451 ?_
                      refine rn_topi qv118.symm ?_
                      refine rn_aload_n (pc := 452) 0 dL_law_452 rfl rfl ?_
                      refine rn_iload_n (pc := 453) 3 dL_law_453 rfl rfl ?_
                      refine rn_iconst (pc := 454) (v := 3) dL_law_454 (by decide) ?_
                      refine rn_iadd (pc := 455) dL_law_455 ?_
                      obtain ⟨v119, hv119, h101⟩ := bnd_some h100
                      obtain ⟨hv119, qv119⟩ := ite_some hv119
                      refine rn_sld (pc := 456) hv119 dL_law_456 ?_
                      refine rn_topi qv119.symm ?_
                      obtain ⟨b120, hb120, h102⟩ := bnd_some h101
                      obtain ⟨qb120, kb120⟩ := chk_elim hb120
                      cases qb120
                      obtain ⟨v121, hv121, h103⟩ := bnd_some h102
                      refine rn_callV (pc := 457) (n := 3) (As := [.int v117, .int v118, .int v119]) (rest := [.int v116]) (eX12_holds (d := d + 23) hv121) (by omega) okX12 kb120 tw_1256 tw_79 tw_1253 tw_1254 tw_1255 (by decide +kernel) rfl (Nat.le_of_ble_eq_true rfl) dL_law_457 rfl ?_
                      rcases if_elim h103 with ⟨c122, h104⟩ | ⟨c122, h104⟩
                      · refine rn_ieq_t (pc := 460) (tgt := 964) dL_law_460 (by decide) c122 ?_
                        obtain ⟨x123, ex123, h105⟩ := nm_elim h104
                        refine rn_iinc (pc := 964) (v := x123) (lv' := [(3, .int x123), (0, rv (some 1000050)), (1, rv (some t1)), (2, rv (some t2))]) 3 dL_law_964 rfl (by rw [ex123]; rfl) (by decide) rfl ?_
                        refine rn_goto (pc := 967) (tgt := 18) dL_law_967 (by decide) ?_
                        cases h105
                        exact rn_sub [1, 2, 3, 0] rfl (k0 _ rfl)
                      · refine rn_ieq_f (pc := 460) 964 dL_law_460 (by decide) c122 ?_
                        cases h104
                        exact rn_sub [] rfl (k10 _ rfl)
                    · skip
                      rcases if_elim h93 with ⟨c124, h106⟩ | ⟨c124, h106⟩
                      · refine rn_tsw_in (pc := 33) (tgt := 465) (off := 432) 9 dL_law_33 c124 (by decide) (by decide) ?_
                        refine rn_aload_n (pc := 465) 1 dL_law_465 rfl rfl ?_
                        refine rn_aload_n (pc := 466) 0 dL_law_466 rfl rfl ?_
                        refine rn_iload_n (pc := 467) 3 dL_law_467 rfl rfl ?_
                        refine rn_iconst (pc := 468) (v := 1) dL_law_468 (by decide) ?_
                        refine rn_iadd (pc := 469) dL_law_469 ?_
                        obtain ⟨v125, hv125, h107⟩ := bnd_some h106
                        obtain ⟨hv125, qv125⟩ := ite_some hv125
                        refine rn_sld (pc := 470) hv125 dL_law_470 ?_
                        refine rn_topi qv125.symm ?_
                        refine rn_aload_n (pc := 471) 0 dL_law_471 rfl rfl ?_
                        refine rn_iload_n (pc := 472) 3 dL_law_472 rfl rfl ?_
                        refine rn_iconst (pc := 473) (v := 2) dL_law_473 (by decide) ?_
                        refine rn_iadd (pc := 474) dL_law_474 ?_
                        obtain ⟨v126, hv126, h108⟩ := bnd_some h107
                        obtain ⟨hv126, qv126⟩ := ite_some hv126
                        refine rn_sld (pc := 475) hv126 dL_law_475 ?_
                        refine rn_topi qv126.symm ?_
                        refine rn_aload_n (pc := 476) 0 dL_law_476 rfl rfl ?_
                        refine rn_iload_n (pc := 477) 3 dL_law_477 rfl rfl ?_
                        refine rn_iconst (pc := 478) (v := 3) dL_law_478 (by decide) ?_
                        refine rn_iadd (pc := 479) dL_law_479 ?_
                        obtain ⟨v127, hv127, h109⟩ := bnd_some h108
                        obtain ⟨hv127, qv127⟩ := ite_some hv127
                        refine rn_sld (pc := 480) hv127 dL_law_480 ?_
                        refine rn_topi qv127.symm ?_
                        obtain ⟨b128, hb128, h110⟩ := bnd_some h109
                        obtain ⟨qb128, kb128⟩ := chk_elim hb128
                        cases qb128
                        obtain ⟨v129, u130, hv129, h111⟩ := bnd2_some h110
                        refine rn_callV (pc := 481) (n := 3) (As := [.int v125, .int v126, .int v127]) (rest := []) (eX10_rows (d := d + 21) hv129) (by omega) okX10 kb128 tw_658 tw_68 tw_655 tw_656 tw_657 (by decide +kernel) rfl (Nat.le_of_ble_eq_true rfl) dL_law_481 rfl ?_
                        refine rn_aload_n (pc := 484) 2 dL_law_484 rfl rfl ?_
                        refine rn_aload_n (pc := 485) 0 dL_law_485 rfl rfl ?_
                        refine rn_iload_n (pc := 486) 3 dL_law_486 rfl rfl ?_
                        refine rn_iconst (pc := 487) (v := 1) dL_law_487 (by decide) ?_
                        refine rn_iadd (pc := 488) dL_law_488 ?_
                        obtain ⟨v131, hv131, h112⟩ := bnd_some h111
                        obtain ⟨hv131, qv131⟩ := ite_some hv131
                        refine rn_sld (pc := 489) hv131 dL_law_489 ?_
                        refine rn_topi qv131.symm ?_
                        refine rn_aload_n (pc := 490) 0 dL_law_490 rfl rfl ?_
                        refine rn_iload_n (pc := 491) 3 dL_law_491 rfl rfl ?_
                        refine rn_iconst (pc := 492) (v := 2) dL_law_492 (by decide) ?_
                        refine rn_iadd (pc := 493) dL_law_493 ?_
                        obtain ⟨v132, hv132, h113⟩ := bnd_some h112
                        obtain ⟨hv132, qv132⟩ := ite_some hv132
                        refine rn_sld (pc := 494) hv132 dL_law_494 ?_
                        refine rn_topi qv132.symm ?_
                        refine rn_aload_n (pc := 495) 0 dL_law_495 rfl rfl ?_
                        refine rn_iload_n (pc := 496) 3 dL_law_496 rfl rfl ?_
                        refine rn_iconst (pc := 497) (v := 3) dL_law_497 (by decide) ?_
                        refine rn_iadd (pc := 498) dL_law_498 ?_
                        obtain ⟨v133, hv133, h114⟩ := bnd_some h113
                        obtain ⟨hv133, qv133⟩ := ite_some hv133
                        refine rn_sld (pc := 499) hv133 dL_law_499 ?_
                        refine rn_topi qv133.symm ?_
                        obtain ⟨b134, hb134, h115⟩ := bnd_some h114
                        obtain ⟨qb134, kb134⟩ := chk_elim hb134
                        cases qb134
                        obtain ⟨v135, u136, hv135, h116⟩ := bnd2_some h115
                        refine rn_callV (pc := 500) (n := 3) (As := [.int v131, .int v132, .int v133]) (rest := [.int v129]) (eX12_rows (d := d + 20) hv135) (by omega) okX12 kb134 tw_1267 tw_79 tw_1264 tw_1265 tw_1266 (by decide +kernel) rfl (Nat.le_of_ble_eq_true rfl) dL_law_500 rfl ?_
                        rcases if_elim h116 with ⟨c137, h117⟩ | ⟨c137, h117⟩
                        · refine rn_ieq_t (pc := 503) (tgt := 964) dL_law_503 (by decide) c137 ?_
                          obtain ⟨x138, ex138, h118⟩ := nm_elim h117
                          refine rn_iinc (pc := 964) (v := x138) (lv' := [(3, .int x138), (0, rv (some 1000050)), (1, rv (some t1)), (2, rv (some t2))]) 3 dL_law_964 rfl (by rw [ex138]; rfl) (by decide) rfl ?_
                          refine rn_goto (pc := 967) (tgt := 18) dL_law_967 (by decide) ?_
                          cases h118
                          exact rn_sub [1, 2, 3, 0] rfl (k0 _ rfl)
                        · refine rn_ieq_f (pc := 503) 964 dL_law_503 (by decide) c137 ?_
                          cases h117
                          exact rn_sub [] rfl (k11 _ rfl)
                      · skip
                        rcases if_elim h106 with ⟨c139, h119⟩ | ⟨c139, h119⟩
                        · refine rn_tsw_in (pc := 33) (tgt := 508) (off := 475) 10 dL_law_33 c139 (by decide) (by decide) ?_
                          refine rn_aload_n (pc := 508) 1 dL_law_508 rfl rfl ?_
                          refine rn_aload_n (pc := 509) 0 dL_law_509 rfl rfl ?_
                          refine rn_iload_n (pc := 510) 3 dL_law_510 rfl rfl ?_
                          refine rn_iconst (pc := 511) (v := 1) dL_law_511 (by decide) ?_
                          refine rn_iadd (pc := 512) dL_law_512 ?_
                          obtain ⟨v140, hv140, h120⟩ := bnd_some h119
                          obtain ⟨hv140, qv140⟩ := ite_some hv140
                          refine rn_sld (pc := 513) hv140 dL_law_513 ?_
                          refine rn_topi qv140.symm ?_
                          refine rn_aload_n (pc := 514) 0 dL_law_514 rfl rfl ?_
                          refine rn_iload_n (pc := 515) 3 dL_law_515 rfl rfl ?_
                          refine rn_iconst (pc := 516) (v := 2) dL_law_516 (by decide) ?_
                          refine rn_iadd (pc := 517) dL_law_517 ?_
                          obtain ⟨v141, hv141, h121⟩ := bnd_some h120
                          obtain ⟨hv141, qv141⟩ := ite_some hv141
                          refine rn_sld (pc := 518) hv141 dL_law_518 ?_
                          refine rn_topi qv141.symm ?_
                          obtain ⟨b142, hb142, h122⟩ := bnd_some h121
                          obtain ⟨qb142, kb142⟩ := chk_elim hb142
                          cases qb142
                          obtain ⟨v143, u144, hv143, h123⟩ := bnd2_some h122
                          refine rn_callV (pc := 519) (n := 2) (As := [.int v140, .int v141]) (rest := []) (eX10_mean (d := d + 21) hv143) (by omega) okX10 kb142 tw_703 tw_68 tw_700 tw_701 tw_702 (by decide +kernel) rfl (Nat.le_of_ble_eq_true rfl) dL_law_519 rfl ?_
                          refine rn_aload_n (pc := 522) 2 dL_law_522 rfl rfl ?_
                          refine rn_aload_n (pc := 523) 0 dL_law_523 rfl rfl ?_
                          refine rn_iload_n (pc := 524) 3 dL_law_524 rfl rfl ?_
                          refine rn_iconst (pc := 525) (v := 1) dL_law_525 (by decide) ?_
                          refine rn_iadd (pc := 526) dL_law_526 ?_
                          obtain ⟨v145, hv145, h124⟩ := bnd_some h123
                          obtain ⟨hv145, qv145⟩ := ite_some hv145
                          refine rn_sld (pc := 527) hv145 dL_law_527 ?_
                          refine rn_topi qv145.symm ?_
                          refine rn_aload_n (pc := 528) 0 dL_law_528 rfl rfl ?_
                          refine rn_iload_n (pc := 529) 3 dL_law_529 rfl rfl ?_
                          refine rn_iconst (pc := 530) (v := 2) dL_law_530 (by decide) ?_
                          refine rn_iadd (pc := 531) dL_law_531 ?_
                          obtain ⟨v146, hv146, h125⟩ := bnd_some h124
                          obtain ⟨hv146, qv146⟩ := ite_some hv146
                          refine rn_sld (pc := 532) hv146 dL_law_532 ?_
                          refine rn_topi qv146.symm ?_
                          obtain ⟨b147, hb147, h126⟩ := bnd_some h125
                          obtain ⟨qb147, kb147⟩ := chk_elim hb147
                          cases qb147
                          obtain ⟨v148, u149, hv148, h127⟩ := bnd2_some h126
                          refine rn_callV (pc := 533) (n := 2) (As := [.int v145, .int v146]) (rest := [.int v143]) (eX12_mean (d := d + 20) hv148) (by omega) okX12 kb147 tw_1296 tw_79 tw_1293 tw_1294 tw_1295 (by decide +kernel) rfl (Nat.le_of_ble_eq_true rfl) dL_law_533 rfl ?_
                          rcases if_elim h127 with ⟨c150, h128⟩ | ⟨c150, h128⟩
                          · refine rn_ieq_t (pc := 536) (tgt := 964) dL_law_536 (by decide) c150 ?_
                            obtain ⟨x151, ex151, h129⟩ := nm_elim h128
                            refine rn_iinc (pc := 964) (v := x151) (lv' := [(3, .int x151), (0, rv (some 1000050)), (1, rv (some t1)), (2, rv (some t2))]) 3 dL_law_964 rfl (by rw [ex151]; rfl) (by decide) rfl ?_
                            refine rn_goto (pc := 967) (tgt := 18) dL_law_967 (by decide) ?_
                            cases h129
                            exact rn_sub [1, 2, 3, 0] rfl (k0 _ rfl)
                          · refine rn_ieq_f (pc := 536) 964 dL_law_536 (by decide) c150 ?_
                            cases h128
                            exact rn_sub [] rfl (k12 _ rfl)
                        · skip
                          rcases if_elim h119 with ⟨c152, h130⟩ | ⟨c152, h130⟩
                          · refine rn_tsw_in (pc := 33) (tgt := 541) (off := 508) 11 dL_law_33 c152 (by decide) (by decide) ?_
                            refine rn_aload_n (pc := 541) 1 dL_law_541 rfl rfl ?_
                            refine rn_aload_n (pc := 542) 0 dL_law_542 rfl rfl ?_
                            refine rn_iload_n (pc := 543) 3 dL_law_543 rfl rfl ?_
                            refine rn_iconst (pc := 544) (v := 1) dL_law_544 (by decide) ?_
                            refine rn_iadd (pc := 545) dL_law_545 ?_
                            obtain ⟨v153, hv153, h131⟩ := bnd_some h130
                            obtain ⟨hv153, qv153⟩ := ite_some hv153
                            refine rn_sld (pc := 546) hv153 dL_law_546 ?_
                            refine rn_topi qv153.symm ?_
                            obtain ⟨b154, hb154, h132⟩ := bnd_some h131
                            obtain ⟨qb154, kb154⟩ := chk_elim hb154
                            cases qb154
                            obtain ⟨v155, u156, hv155, h133⟩ := bnd2_some h132
                            refine rn_callV (pc := 547) (n := 1) (As := [.int v153]) (rest := []) (eX10_ranked (d := d + 21) hv155) (by omega) okX10 kb154 tw_725 tw_68 tw_722 tw_723 tw_724 (by decide +kernel) rfl (Nat.le_of_ble_eq_true rfl) dL_law_547 rfl ?_
                            refine rn_aload_n (pc := 550) 2 dL_law_550 rfl rfl ?_
                            refine rn_aload_n (pc := 551) 0 dL_law_551 rfl rfl ?_
                            refine rn_iload_n (pc := 552) 3 dL_law_552 rfl rfl ?_
                            refine rn_iconst (pc := 553) (v := 1) dL_law_553 (by decide) ?_
                            refine rn_iadd (pc := 554) dL_law_554 ?_
                            obtain ⟨v157, hv157, h134⟩ := bnd_some h133
                            obtain ⟨hv157, qv157⟩ := ite_some hv157
                            refine rn_sld (pc := 555) hv157 dL_law_555 ?_
                            refine rn_topi qv157.symm ?_
                            obtain ⟨b158, hb158, h135⟩ := bnd_some h134
                            obtain ⟨qb158, kb158⟩ := chk_elim hb158
                            cases qb158
                            obtain ⟨v159, u160, hv159, h136⟩ := bnd2_some h135
                            refine rn_callV (pc := 556) (n := 1) (As := [.int v157]) (rest := [.int v155]) (eX12_ranked (d := d + 19) hv159) (by omega) okX12 kb158 tw_1309 tw_79 tw_1306 tw_1307 tw_1308 (by decide +kernel) rfl (Nat.le_of_ble_eq_true rfl) dL_law_556 rfl ?_
                            rcases if_elim h136 with ⟨c161, h137⟩ | ⟨c161, h137⟩
                            · refine rn_ieq_t (pc := 559) (tgt := 964) dL_law_559 (by decide) c161 ?_
                              obtain ⟨x162, ex162, h138⟩ := nm_elim h137
                              refine rn_iinc (pc := 964) (v := x162) (lv' := [(3, .int x162), (0, rv (some 1000050)), (1, rv (some t1)), (2, rv (some t2))]) 3 dL_law_964 rfl (by rw [ex162]; rfl) (by decide) rfl ?_
                              refine rn_goto (pc := 967) (tgt := 18) dL_law_967 (by decide) ?_
                              cases h138
                              exact rn_sub [1, 2, 3, 0] rfl (k0 _ rfl)
                            · refine rn_ieq_f (pc := 559) 964 dL_law_559 (by decide) c161 ?_
                              cases h137
                              exact rn_sub [] rfl (k13 _ rfl)
                          · skip
                            rcases if_elim h130 with ⟨c163, h139⟩ | ⟨c163, h139⟩
                            · refine rn_tsw_in (pc := 33) (tgt := 564) (off := 531) 12 dL_law_33 c163 (by decide) (by decide) ?_
                              refine rn_aload_n (pc := 564) 1 dL_law_564 rfl rfl ?_
                              refine rn_aload_n (pc := 565) 0 dL_law_565 rfl rfl ?_
                              refine rn_iload_n (pc := 566) 3 dL_law_566 rfl rfl ?_
                              refine rn_iconst (pc := 567) (v := 1) dL_law_567 (by decide) ?_
                              refine rn_iadd (pc := 568) dL_law_568 ?_
                              obtain ⟨v164, hv164, h140⟩ := bnd_some h139
                              obtain ⟨hv164, qv164⟩ := ite_some hv164
                              refine rn_sld (pc := 569) hv164 dL_law_569 ?_
                              refine rn_topi qv164.symm ?_
                              obtain ⟨b165, hb165, h141⟩ := bnd_some h140
                              obtain ⟨qb165, kb165⟩ := chk_elim hb165
                              cases qb165
                              obtain ⟨v166, hv166, h142⟩ := bnd_some h141
                              refine rn_callV (pc := 570) (n := 1) (As := [.int v164]) (rest := []) (eX10_pays (d := d + 23) hv166) (by omega) okX10 kb165 tw_740 tw_68 tw_737 tw_738 tw_739 (by decide +kernel) rfl (Nat.le_of_ble_eq_true rfl) dL_law_570 rfl ?_
                              refine rn_aload_n (pc := 573) 2 dL_law_573 rfl rfl ?_
                              refine rn_aload_n (pc := 574) 0 dL_law_574 rfl rfl ?_
                              refine rn_iload_n (pc := 575) 3 dL_law_575 rfl rfl ?_
                              refine rn_iconst (pc := 576) (v := 1) dL_law_576 (by decide) ?_
                              refine rn_iadd (pc := 577) dL_law_577 ?_
                              obtain ⟨v167, hv167, h143⟩ := bnd_some h142
                              obtain ⟨hv167, qv167⟩ := ite_some hv167
                              refine rn_sld (pc := 578) hv167 dL_law_578 ?_
                              refine rn_topi qv167.symm ?_
                              obtain ⟨b168, hb168, h144⟩ := bnd_some h143
                              obtain ⟨qb168, kb168⟩ := chk_elim hb168
                              cases qb168
                              obtain ⟨v169, hv169, h145⟩ := bnd_some h144
                              refine rn_callV (pc := 579) (n := 1) (As := [.int v167]) (rest := [.int v166]) (eX12_pays (d := d + 23) hv169) (by omega) okX12 kb168 tw_1316 tw_79 tw_1313 tw_1314 tw_1315 (by decide +kernel) rfl (Nat.le_of_ble_eq_true rfl) dL_law_579 rfl ?_
                              rcases if_elim h145 with ⟨c170, h146⟩ | ⟨c170, h146⟩
                              · refine rn_ieq_t (pc := 582) (tgt := 964) dL_law_582 (by decide) c170 ?_
                                obtain ⟨x171, ex171, h147⟩ := nm_elim h146
                                refine rn_iinc (pc := 964) (v := x171) (lv' := [(3, .int x171), (0, rv (some 1000050)), (1, rv (some t1)), (2, rv (some t2))]) 3 dL_law_964 rfl (by rw [ex171]; rfl) (by decide) rfl ?_
                                refine rn_goto (pc := 967) (tgt := 18) dL_law_967 (by decide) ?_
                                cases h147
                                exact rn_sub [1, 2, 3, 0] rfl (k0 _ rfl)
                              · refine rn_ieq_f (pc := 582) 964 dL_law_582 (by decide) c170 ?_
                                cases h146
                                exact rn_sub [] rfl (k14 _ rfl)
                            · skip
                              rcases if_elim h139 with ⟨c172, h148⟩ | ⟨c172, h148⟩
                              · refine rn_tsw_in (pc := 33) (tgt := 587) (off := 554) 13 dL_law_33 c172 (by decide) (by decide) ?_
                                refine rn_aload_n (pc := 587) 1 dL_law_587 rfl rfl ?_
                                obtain ⟨b173, hb173, h149⟩ := bnd_some h148
                                obtain ⟨qb173, kb173⟩ := chk_elim hb173
                                cases qb173
                                obtain ⟨v174, hv174, h150⟩ := bnd_some h149
                                refine rn_callV (pc := 588) (n := 0) (As := []) (rest := []) (eX10_honest (d := d + 22) hv174) (by omega) okX10 kb173 tw_751 tw_68 tw_748 tw_749 tw_750 (by decide +kernel) rfl (Nat.le_of_ble_eq_true rfl) dL_law_588 rfl ?_
                                refine rn_aload_n (pc := 591) 2 dL_law_591 rfl rfl ?_
                                obtain ⟨b175, hb175, h151⟩ := bnd_some h150
                                obtain ⟨qb175, kb175⟩ := chk_elim hb175
                                cases qb175
                                obtain ⟨v176, hv176, h152⟩ := bnd_some h151
                                refine rn_callV (pc := 592) (n := 0) (As := []) (rest := [.int v174]) (eX12_honest (d := d + 24) hv176) (by omega) okX12 kb175 tw_1326 tw_79 tw_1323 tw_1324 tw_1325 (by decide +kernel) rfl (Nat.le_of_ble_eq_true rfl) dL_law_592 rfl ?_
                                rcases if_elim h152 with ⟨c177, h153⟩ | ⟨c177, h153⟩
                                · refine rn_ieq_t (pc := 595) (tgt := 964) dL_law_595 (by decide) c177 ?_
                                  obtain ⟨x178, ex178, h154⟩ := nm_elim h153
                                  refine rn_iinc (pc := 964) (v := x178) (lv' := [(3, .int x178), (0, rv (some 1000050)), (1, rv (some t1)), (2, rv (some t2))]) 3 dL_law_964 rfl (by rw [ex178]; rfl) (by decide) rfl ?_
                                  refine rn_goto (pc := 967) (tgt := 18) dL_law_967 (by decide) ?_
                                  cases h154
                                  exact rn_sub [1, 2, 3, 0] rfl (k0 _ rfl)
                                · refine rn_ieq_f (pc := 595) 964 dL_law_595 (by decide) c177 ?_
                                  cases h153
                                  exact rn_sub [] rfl (k15 _ rfl)
                              · skip
                                rcases if_elim h148 with ⟨c179, h155⟩ | ⟨c179, h155⟩
                                · refine rn_tsw_in (pc := 33) (tgt := 600) (off := 567) 14 dL_law_33 c179 (by decide) (by decide) ?_
                                  refine rn_aload_n (pc := 600) 1 dL_law_600 rfl rfl ?_
                                  refine rn_aload_n (pc := 601) 0 dL_law_601 rfl rfl ?_
                                  refine rn_iload_n (pc := 602) 3 dL_law_602 rfl rfl ?_
                                  refine rn_iconst (pc := 603) (v := 1) dL_law_603 (by decide) ?_
                                  refine rn_iadd (pc := 604) dL_law_604 ?_
                                  obtain ⟨v180, hv180, h156⟩ := bnd_some h155
                                  obtain ⟨hv180, qv180⟩ := ite_some hv180
                                  refine rn_sld (pc := 605) hv180 dL_law_605 ?_
                                  refine rn_topi qv180.symm ?_
                                  refine rn_aload_n (pc := 606) 0 dL_law_606 rfl rfl ?_
                                  refine rn_iload_n (pc := 607) 3 dL_law_607 rfl rfl ?_
                                  refine rn_iconst (pc := 608) (v := 2) dL_law_608 (by decide) ?_
                                  refine rn_iadd (pc := 609) dL_law_609 ?_
                                  obtain ⟨v181, hv181, h157⟩ := bnd_some h156
                                  obtain ⟨hv181, qv181⟩ := ite_some hv181
                                  refine rn_sld (pc := 610) hv181 dL_law_610 ?_
                                  refine rn_topi qv181.symm ?_
                                  obtain ⟨b182, hb182, h158⟩ := bnd_some h157
                                  obtain ⟨qb182, kb182⟩ := chk_elim hb182
                                  cases qb182
                                  obtain ⟨v183, hv183, h159⟩ := bnd_some h158
                                  refine rn_callV (pc := 611) (n := 2) (As := [.int v180, .int v181]) (rest := []) (eX10_copies (d := d + 22) hv183) (by omega) okX10 kb182 tw_762 tw_68 tw_759 tw_760 tw_761 (by decide +kernel) rfl (Nat.le_of_ble_eq_true rfl) dL_law_611 rfl ?_
                                  refine rn_aload_n (pc := 614) 2 dL_law_614 rfl rfl ?_
                                  refine rn_aload_n (pc := 615) 0 dL_law_615 rfl rfl ?_
                                  refine rn_iload_n (pc := 616) 3 dL_law_616 rfl rfl ?_
                                  refine rn_iconst (pc := 617) (v := 1) dL_law_617 (by decide) ?_
                                  refine rn_iadd (pc := 618) dL_law_618 ?_
                                  obtain ⟨v184, hv184, h160⟩ := bnd_some h159
                                  obtain ⟨hv184, qv184⟩ := ite_some hv184
                                  refine rn_sld (pc := 619) hv184 dL_law_619 ?_
                                  refine rn_topi qv184.symm ?_
                                  refine rn_aload_n (pc := 620) 0 dL_law_620 rfl rfl ?_
                                  refine rn_iload_n (pc := 621) 3 dL_law_621 rfl rfl ?_
                                  refine rn_iconst (pc := 622) (v := 2) dL_law_622 (by decide) ?_
                                  refine rn_iadd (pc := 623) dL_law_623 ?_
                                  obtain ⟨v185, hv185, h161⟩ := bnd_some h160
                                  obtain ⟨hv185, qv185⟩ := ite_some hv185
                                  refine rn_sld (pc := 624) hv185 dL_law_624 ?_
                                  refine rn_topi qv185.symm ?_
                                  obtain ⟨b186, hb186, h162⟩ := bnd_some h161
                                  obtain ⟨qb186, kb186⟩ := chk_elim hb186
                                  cases qb186
                                  obtain ⟨v187, u188, hv187, h163⟩ := bnd2_some h162
                                  refine rn_callV (pc := 625) (n := 2) (As := [.int v184, .int v185]) (rest := [.int v183]) (eX12_copies (d := d + 23) hv187) (by omega) okX12 kb186 tw_1330 tw_79 tw_1327 tw_1328 tw_1329 (by decide +kernel) rfl (Nat.le_of_ble_eq_true rfl) dL_law_625 rfl ?_
                                  rcases if_elim h163 with ⟨c189, h164⟩ | ⟨c189, h164⟩
                                  · refine rn_ieq_t (pc := 628) (tgt := 964) dL_law_628 (by decide) c189 ?_
                                    obtain ⟨x190, ex190, h165⟩ := nm_elim h164
                                    refine rn_iinc (pc := 964) (v := x190) (lv' := [(3, .int x190), (0, rv (some 1000050)), (1, rv (some t1)), (2, rv (some t2))]) 3 dL_law_964 rfl (by rw [ex190]; rfl) (by decide) rfl ?_
                                    refine rn_goto (pc := 967) (tgt := 18) dL_law_967 (by decide) ?_
                                    cases h165
                                    exact rn_sub [1, 2, 3, 0] rfl (k0 _ rfl)
                                  · refine rn_ieq_f (pc := 628) 964 dL_law_628 (by decide) c189 ?_
                                    cases h164
                                    exact rn_sub [] rfl (k16 _ rfl)
                                · skip
                                  rcases if_elim h155 with ⟨c191, h166⟩ | ⟨c191, h166⟩
                                  · refine rn_tsw_in (pc := 33) (tgt := 633) (off := 600) 15 dL_law_33 c191 (by decide) (by decide) ?_
                                    refine rn_aload_n (pc := 633) 1 dL_law_633 rfl rfl ?_
                                    refine rn_aload_n (pc := 634) 0 dL_law_634 rfl rfl ?_
                                    refine rn_iload_n (pc := 635) 3 dL_law_635 rfl rfl ?_
                                    refine rn_iconst (pc := 636) (v := 1) dL_law_636 (by decide) ?_
                                    refine rn_iadd (pc := 637) dL_law_637 ?_
                                    obtain ⟨v192, hv192, h167⟩ := bnd_some h166
                                    obtain ⟨hv192, qv192⟩ := ite_some hv192
                                    refine rn_sld (pc := 638) hv192 dL_law_638 ?_
                                    refine rn_topi qv192.symm ?_
                                    refine rn_aload_n (pc := 639) 0 dL_law_639 rfl rfl ?_
                                    refine rn_iload_n (pc := 640) 3 dL_law_640 rfl rfl ?_
                                    refine rn_iconst (pc := 641) (v := 2) dL_law_641 (by decide) ?_
                                    refine rn_iadd (pc := 642) dL_law_642 ?_
                                    obtain ⟨v193, hv193, h168⟩ := bnd_some h167
                                    obtain ⟨hv193, qv193⟩ := ite_some hv193
                                    refine rn_sld (pc := 643) hv193 dL_law_643 ?_
                                    refine rn_topi qv193.symm ?_
                                    obtain ⟨b194, hb194, h169⟩ := bnd_some h168
                                    obtain ⟨qb194, kb194⟩ := chk_elim hb194
                                    cases qb194
                                    obtain ⟨v195, u196, hv195, h170⟩ := bnd2_some h169
                                    refine rn_callV (pc := 644) (n := 2) (As := [.int v192, .int v193]) (rest := []) (eX10_weight (d := d + 20) hv195) (by omega) okX10 kb194 tw_778 tw_68 tw_775 tw_776 tw_777 (by decide +kernel) rfl (Nat.le_of_ble_eq_true rfl) dL_law_644 rfl ?_
                                    refine rn_aload_n (pc := 647) 2 dL_law_647 rfl rfl ?_
                                    refine rn_aload_n (pc := 648) 0 dL_law_648 rfl rfl ?_
                                    refine rn_iload_n (pc := 649) 3 dL_law_649 rfl rfl ?_
                                    refine rn_iconst (pc := 650) (v := 1) dL_law_650 (by decide) ?_
                                    refine rn_iadd (pc := 651) dL_law_651 ?_
                                    obtain ⟨v197, hv197, h171⟩ := bnd_some h170
                                    obtain ⟨hv197, qv197⟩ := ite_some hv197
                                    refine rn_sld (pc := 652) hv197 dL_law_652 ?_
                                    refine rn_topi qv197.symm ?_
                                    refine rn_aload_n (pc := 653) 0 dL_law_653 rfl rfl ?_
                                    refine rn_iload_n (pc := 654) 3 dL_law_654 rfl rfl ?_
                                    refine rn_iconst (pc := 655) (v := 2) dL_law_655 (by decide) ?_
                                    refine rn_iadd (pc := 656) dL_law_656 ?_
                                    obtain ⟨v198, hv198, h172⟩ := bnd_some h171
                                    obtain ⟨hv198, qv198⟩ := ite_some hv198
                                    refine rn_sld (pc := 657) hv198 dL_law_657 ?_
                                    refine rn_topi qv198.symm ?_
                                    obtain ⟨b199, hb199, h173⟩ := bnd_some h172
                                    obtain ⟨qb199, kb199⟩ := chk_elim hb199
                                    cases qb199
                                    obtain ⟨v200, u201, hv200, h174⟩ := bnd2_some h173
                                    refine rn_callV (pc := 658) (n := 2) (As := [.int v197, .int v198]) (rest := [.int v195]) (eX12_weight (d := d + 20) hv200) (by omega) okX12 kb199 tw_1340 tw_79 tw_1337 tw_1338 tw_1339 (by decide +kernel) rfl (Nat.le_of_ble_eq_true rfl) dL_law_658 rfl ?_
                                    rcases if_elim h174 with ⟨c202, h175⟩ | ⟨c202, h175⟩
                                    · refine rn_ieq_t (pc := 661) (tgt := 964) dL_law_661 (by decide) c202 ?_
                                      obtain ⟨x203, ex203, h176⟩ := nm_elim h175
                                      refine rn_iinc (pc := 964) (v := x203) (lv' := [(3, .int x203), (0, rv (some 1000050)), (1, rv (some t1)), (2, rv (some t2))]) 3 dL_law_964 rfl (by rw [ex203]; rfl) (by decide) rfl ?_
                                      refine rn_goto (pc := 967) (tgt := 18) dL_law_967 (by decide) ?_
                                      cases h176
                                      exact rn_sub [1, 2, 3, 0] rfl (k0 _ rfl)
                                    · refine rn_ieq_f (pc := 661) 964 dL_law_661 (by decide) c202 ?_
                                      cases h175
                                      exact rn_sub [] rfl (k17 _ rfl)
                                  · skip
                                    rcases if_elim h166 with ⟨c204, h177⟩ | ⟨c204, h177⟩
                                    · refine rn_tsw_in (pc := 33) (tgt := 666) (off := 633) 16 dL_law_33 c204 (by decide) (by decide) ?_
                                      refine rn_aload_n (pc := 666) 1 dL_law_666 rfl rfl ?_
                                      refine rn_aload_n (pc := 667) 0 dL_law_667 rfl rfl ?_
                                      refine rn_iload_n (pc := 668) 3 dL_law_668 rfl rfl ?_
                                      refine rn_iconst (pc := 669) (v := 1) dL_law_669 (by decide) ?_
                                      refine rn_iadd (pc := 670) dL_law_670 ?_
                                      obtain ⟨v205, hv205, h178⟩ := bnd_some h177
                                      obtain ⟨hv205, qv205⟩ := ite_some hv205
                                      refine rn_sld (pc := 671) hv205 dL_law_671 ?_
                                      refine rn_topi qv205.symm ?_
                                      refine rn_aload_n (pc := 672) 0 dL_law_672 rfl rfl ?_
                                      refine rn_iload_n (pc := 673) 3 dL_law_673 rfl rfl ?_
                                      refine rn_iconst (pc := 674) (v := 2) dL_law_674 (by decide) ?_
                                      refine rn_iadd (pc := 675) dL_law_675 ?_
                                      obtain ⟨v206, hv206, h179⟩ := bnd_some h178
                                      obtain ⟨hv206, qv206⟩ := ite_some hv206
                                      refine rn_sld (pc := 676) hv206 dL_law_676 ?_
                                      refine rn_topi qv206.symm ?_
                                      obtain ⟨b207, hb207, h180⟩ := bnd_some h179
                                      obtain ⟨qb207, kb207⟩ := chk_elim hb207
                                      cases qb207
                                      obtain ⟨v208, u209, hv208, h181⟩ := bnd2_some h180
                                      refine rn_callV (pc := 677) (n := 2) (As := [.int v205, .int v206]) (rest := []) (eX10_joined (d := d + 20) hv208) (by omega) okX10 kb207 tw_808 tw_68 tw_805 tw_806 tw_807 (by decide +kernel) rfl (Nat.le_of_ble_eq_true rfl) dL_law_677 rfl ?_
                                      refine rn_aload_n (pc := 680) 2 dL_law_680 rfl rfl ?_
                                      refine rn_aload_n (pc := 681) 0 dL_law_681 rfl rfl ?_
                                      refine rn_iload_n (pc := 682) 3 dL_law_682 rfl rfl ?_
                                      refine rn_iconst (pc := 683) (v := 1) dL_law_683 (by decide) ?_
                                      refine rn_iadd (pc := 684) dL_law_684 ?_
                                      obtain ⟨v210, hv210, h182⟩ := bnd_some h181
                                      obtain ⟨hv210, qv210⟩ := ite_some hv210
                                      refine rn_sld (pc := 685) hv210 dL_law_685 ?_
                                      refine rn_topi qv210.symm ?_
                                      refine rn_aload_n (pc := 686) 0 dL_law_686 rfl rfl ?_
                                      refine rn_iload_n (pc := 687) 3 dL_law_687 rfl rfl ?_
                                      refine rn_iconst (pc := 688) (v := 2) dL_law_688 (by decide) ?_
                                      refine rn_iadd (pc := 689) dL_law_689 ?_
                                      obtain ⟨v211, hv211, h183⟩ := bnd_some h182
                                      obtain ⟨hv211, qv211⟩ := ite_some hv211
                                      refine rn_sld (pc := 690) hv211 dL_law_690 ?_
                                      refine rn_topi qv211.symm ?_
                                      obtain ⟨b212, hb212, h184⟩ := bnd_some h183
                                      obtain ⟨qb212, kb212⟩ := chk_elim hb212
                                      cases qb212
                                      obtain ⟨v213, u214, hv213, h185⟩ := bnd2_some h184
                                      refine rn_callV (pc := 691) (n := 2) (As := [.int v210, .int v211]) (rest := [.int v208]) (eX12_joined (d := d + 19) hv213) (by omega) okX12 kb212 tw_1348 tw_79 tw_1345 tw_1346 tw_1347 (by decide +kernel) rfl (Nat.le_of_ble_eq_true rfl) dL_law_691 rfl ?_
                                      rcases if_elim h185 with ⟨c215, h186⟩ | ⟨c215, h186⟩
                                      · refine rn_ieq_t (pc := 694) (tgt := 964) dL_law_694 (by decide) c215 ?_
                                        obtain ⟨x216, ex216, h187⟩ := nm_elim h186
                                        refine rn_iinc (pc := 964) (v := x216) (lv' := [(3, .int x216), (0, rv (some 1000050)), (1, rv (some t1)), (2, rv (some t2))]) 3 dL_law_964 rfl (by rw [ex216]; rfl) (by decide) rfl ?_
                                        refine rn_goto (pc := 967) (tgt := 18) dL_law_967 (by decide) ?_
                                        cases h187
                                        exact rn_sub [1, 2, 3, 0] rfl (k0 _ rfl)
                                      · refine rn_ieq_f (pc := 694) 964 dL_law_694 (by decide) c215 ?_
                                        cases h186
                                        exact rn_sub [] rfl (k18 _ rfl)
                                    · skip
                                      rcases if_elim h177 with ⟨c217, h188⟩ | ⟨c217, h188⟩
                                      · refine rn_tsw_in (pc := 33) (tgt := 699) (off := 666) 17 dL_law_33 c217 (by decide) (by decide) ?_
                                        refine rn_aload_n (pc := 699) 1 dL_law_699 rfl rfl ?_
                                        refine rn_aload_n (pc := 700) 0 dL_law_700 rfl rfl ?_
                                        refine rn_iload_n (pc := 701) 3 dL_law_701 rfl rfl ?_
                                        refine rn_iconst (pc := 702) (v := 1) dL_law_702 (by decide) ?_
                                        refine rn_iadd (pc := 703) dL_law_703 ?_
                                        obtain ⟨v218, hv218, h189⟩ := bnd_some h188
                                        obtain ⟨hv218, qv218⟩ := ite_some hv218
                                        refine rn_sld (pc := 704) hv218 dL_law_704 ?_
                                        refine rn_topi qv218.symm ?_
                                        refine rn_aload_n (pc := 705) 0 dL_law_705 rfl rfl ?_
                                        refine rn_iload_n (pc := 706) 3 dL_law_706 rfl rfl ?_
                                        refine rn_iconst (pc := 707) (v := 2) dL_law_707 (by decide) ?_
                                        refine rn_iadd (pc := 708) dL_law_708 ?_
                                        obtain ⟨v219, hv219, h190⟩ := bnd_some h189
                                        obtain ⟨hv219, qv219⟩ := ite_some hv219
                                        refine rn_sld (pc := 709) hv219 dL_law_709 ?_
                                        refine rn_topi qv219.symm ?_
                                        obtain ⟨b220, hb220, h191⟩ := bnd_some h190
                                        obtain ⟨qb220, kb220⟩ := chk_elim hb220
                                        cases qb220
                                        obtain ⟨v221, u222, hv221, h192⟩ := bnd2_some h191
                                        refine rn_callV (pc := 710) (n := 2) (As := [.int v218, .int v219]) (rest := []) (eX10_together (d := d + 20) hv221) (by omega) okX10 kb220 tw_827 tw_68 tw_824 tw_825 tw_826 (by decide +kernel) rfl (Nat.le_of_ble_eq_true rfl) dL_law_710 rfl ?_
                                        refine rn_aload_n (pc := 713) 2 dL_law_713 rfl rfl ?_
                                        refine rn_aload_n (pc := 714) 0 dL_law_714 rfl rfl ?_
                                        refine rn_iload_n (pc := 715) 3 dL_law_715 rfl rfl ?_
                                        refine rn_iconst (pc := 716) (v := 1) dL_law_716 (by decide) ?_
                                        refine rn_iadd (pc := 717) dL_law_717 ?_
                                        obtain ⟨v223, hv223, h193⟩ := bnd_some h192
                                        obtain ⟨hv223, qv223⟩ := ite_some hv223
                                        refine rn_sld (pc := 718) hv223 dL_law_718 ?_
                                        refine rn_topi qv223.symm ?_
                                        refine rn_aload_n (pc := 719) 0 dL_law_719 rfl rfl ?_
                                        refine rn_iload_n (pc := 720) 3 dL_law_720 rfl rfl ?_
                                        refine rn_iconst (pc := 721) (v := 2) dL_law_721 (by decide) ?_
                                        refine rn_iadd (pc := 722) dL_law_722 ?_
                                        obtain ⟨v224, hv224, h194⟩ := bnd_some h193
                                        obtain ⟨hv224, qv224⟩ := ite_some hv224
                                        refine rn_sld (pc := 723) hv224 dL_law_723 ?_
                                        refine rn_topi qv224.symm ?_
                                        obtain ⟨b225, hb225, h195⟩ := bnd_some h194
                                        obtain ⟨qb225, kb225⟩ := chk_elim hb225
                                        cases qb225
                                        obtain ⟨v226, u227, hv226, h196⟩ := bnd2_some h195
                                        refine rn_callV (pc := 724) (n := 2) (As := [.int v223, .int v224]) (rest := [.int v221]) (eX12_together (d := d + 19) hv226) (by omega) okX12 kb225 tw_1361 tw_79 tw_1358 tw_1359 tw_1360 (by decide +kernel) rfl (Nat.le_of_ble_eq_true rfl) dL_law_724 rfl ?_
                                        rcases if_elim h196 with ⟨c228, h197⟩ | ⟨c228, h197⟩
                                        · refine rn_ieq_t (pc := 727) (tgt := 964) dL_law_727 (by decide) c228 ?_
                                          obtain ⟨x229, ex229, h198⟩ := nm_elim h197
                                          refine rn_iinc (pc := 964) (v := x229) (lv' := [(3, .int x229), (0, rv (some 1000050)), (1, rv (some t1)), (2, rv (some t2))]) 3 dL_law_964 rfl (by rw [ex229]; rfl) (by decide) rfl ?_
                                          refine rn_goto (pc := 967) (tgt := 18) dL_law_967 (by decide) ?_
                                          cases h198
                                          exact rn_sub [1, 2, 3, 0] rfl (k0 _ rfl)
                                        · refine rn_ieq_f (pc := 727) 964 dL_law_727 (by decide) c228 ?_
                                          cases h197
                                          exact rn_sub [] rfl (k19 _ rfl)
                                      · skip
                                        rcases if_elim h188 with ⟨c230, h199⟩ | ⟨c230, h199⟩
                                        · refine rn_tsw_in (pc := 33) (tgt := 732) (off := 699) 18 dL_law_33 c230 (by decide) (by decide) ?_
                                          refine rn_aload_n (pc := 732) 1 dL_law_732 rfl rfl ?_
                                          refine rn_aload_n (pc := 733) 0 dL_law_733 rfl rfl ?_
                                          refine rn_iload_n (pc := 734) 3 dL_law_734 rfl rfl ?_
                                          refine rn_iconst (pc := 735) (v := 1) dL_law_735 (by decide) ?_
                                          refine rn_iadd (pc := 736) dL_law_736 ?_
                                          obtain ⟨v231, hv231, h200⟩ := bnd_some h199
                                          obtain ⟨hv231, qv231⟩ := ite_some hv231
                                          refine rn_sld (pc := 737) hv231 dL_law_737 ?_
                                          refine rn_topi qv231.symm ?_
                                          refine rn_aload_n (pc := 738) 0 dL_law_738 rfl rfl ?_
                                          refine rn_iload_n (pc := 739) 3 dL_law_739 rfl rfl ?_
                                          refine rn_iconst (pc := 740) (v := 2) dL_law_740 (by decide) ?_
                                          refine rn_iadd (pc := 741) dL_law_741 ?_
                                          obtain ⟨v232, hv232, h201⟩ := bnd_some h200
                                          obtain ⟨hv232, qv232⟩ := ite_some hv232
                                          refine rn_sld (pc := 742) hv232 dL_law_742 ?_
                                          refine rn_topi qv232.symm ?_
                                          obtain ⟨b233, hb233, h202⟩ := bnd_some h201
                                          obtain ⟨qb233, kb233⟩ := chk_elim hb233
                                          cases qb233
                                          obtain ⟨v234, u235, hv234, h203⟩ := bnd2_some h202
                                          refine rn_callV (pc := 743) (n := 2) (As := [.int v231, .int v232]) (rest := []) (eX10_luck (d := d + 19) hv234) (by omega) okX10 kb233 tw_841 tw_68 tw_838 tw_839 tw_840 (by decide +kernel) rfl (Nat.le_of_ble_eq_true rfl) dL_law_743 rfl ?_
                                          refine rn_aload_n (pc := 746) 2 dL_law_746 rfl rfl ?_
                                          refine rn_aload_n (pc := 747) 0 dL_law_747 rfl rfl ?_
                                          refine rn_iload_n (pc := 748) 3 dL_law_748 rfl rfl ?_
                                          refine rn_iconst (pc := 749) (v := 1) dL_law_749 (by decide) ?_
                                          refine rn_iadd (pc := 750) dL_law_750 ?_
                                          obtain ⟨v236, hv236, h204⟩ := bnd_some h203
                                          obtain ⟨hv236, qv236⟩ := ite_some hv236
                                          refine rn_sld (pc := 751) hv236 dL_law_751 ?_
                                          refine rn_topi qv236.symm ?_
                                          refine rn_aload_n (pc := 752) 0 dL_law_752 rfl rfl ?_
                                          refine rn_iload_n (pc := 753) 3 dL_law_753 rfl rfl ?_
                                          refine rn_iconst (pc := 754) (v := 2) dL_law_754 (by decide) ?_
                                          refine rn_iadd (pc := 755) dL_law_755 ?_
                                          obtain ⟨v237, hv237, h205⟩ := bnd_some h204
                                          obtain ⟨hv237, qv237⟩ := ite_some hv237
                                          refine rn_sld (pc := 756) hv237 dL_law_756 ?_
                                          refine rn_topi qv237.symm ?_
                                          obtain ⟨b238, hb238, h206⟩ := bnd_some h205
                                          obtain ⟨qb238, kb238⟩ := chk_elim hb238
                                          cases qb238
                                          obtain ⟨v239, u240, hv239, h207⟩ := bnd2_some h206
                                          refine rn_callV (pc := 757) (n := 2) (As := [.int v236, .int v237]) (rest := [.long v234]) (eX12_luck (d := d + 19) hv239) (by omega) okX12 kb238 tw_1365 tw_79 tw_1362 tw_1363 tw_1364 (by decide +kernel) rfl (Nat.le_of_ble_eq_true rfl) dL_law_757 rfl ?_
                                          refine rn_lcmp (pc := 760) dL_law_760 ?_
                                          rcases if_elim h207 with ⟨c241, h208⟩ | ⟨c241, h208⟩
                                          · refine rn_zeq_t (pc := 761) (tgt := 964) dL_law_761 (by decide) c241 ?_
                                            obtain ⟨x242, ex242, h209⟩ := nm_elim h208
                                            refine rn_iinc (pc := 964) (v := x242) (lv' := [(3, .int x242), (0, rv (some 1000050)), (1, rv (some t1)), (2, rv (some t2))]) 3 dL_law_964 rfl (by rw [ex242]; rfl) (by decide) rfl ?_
                                            refine rn_goto (pc := 967) (tgt := 18) dL_law_967 (by decide) ?_
                                            cases h209
                                            exact rn_sub [1, 2, 3, 0] rfl (k0 _ rfl)
                                          · refine rn_zeq_f (pc := 761) 964 dL_law_761 (by decide) c241 ?_
                                            cases h208
                                            exact rn_sub [] rfl (k20 _ rfl)
                                        · skip
                                          rcases if_elim h199 with ⟨c243, h210⟩ | ⟨c243, h210⟩
                                          · refine rn_tsw_in (pc := 33) (tgt := 766) (off := 733) 19 dL_law_33 c243 (by decide) (by decide) ?_
                                            refine rn_aload_n (pc := 766) 1 dL_law_766 rfl rfl ?_
                                            refine rn_aload_n (pc := 767) 0 dL_law_767 rfl rfl ?_
                                            refine rn_iload_n (pc := 768) 3 dL_law_768 rfl rfl ?_
                                            refine rn_iconst (pc := 769) (v := 1) dL_law_769 (by decide) ?_
                                            refine rn_iadd (pc := 770) dL_law_770 ?_
                                            obtain ⟨v244, hv244, h211⟩ := bnd_some h210
                                            obtain ⟨hv244, qv244⟩ := ite_some hv244
                                            refine rn_sld (pc := 771) hv244 dL_law_771 ?_
                                            refine rn_topi qv244.symm ?_
                                            refine rn_aload_n (pc := 772) 0 dL_law_772 rfl rfl ?_
                                            refine rn_iload_n (pc := 773) 3 dL_law_773 rfl rfl ?_
                                            refine rn_iconst (pc := 774) (v := 2) dL_law_774 (by decide) ?_
                                            refine rn_iadd (pc := 775) dL_law_775 ?_
                                            obtain ⟨v245, hv245, h212⟩ := bnd_some h211
                                            obtain ⟨hv245, qv245⟩ := ite_some hv245
                                            refine rn_sld (pc := 776) hv245 dL_law_776 ?_
                                            refine rn_topi qv245.symm ?_
                                            refine rn_aload_n (pc := 777) 0 dL_law_777 rfl rfl ?_
                                            refine rn_iload_n (pc := 778) 3 dL_law_778 rfl rfl ?_
                                            refine rn_iconst (pc := 779) (v := 3) dL_law_779 (by decide) ?_
                                            refine rn_iadd (pc := 780) dL_law_780 ?_
                                            obtain ⟨v246, hv246, h213⟩ := bnd_some h212
                                            obtain ⟨hv246, qv246⟩ := ite_some hv246
                                            refine rn_sld (pc := 781) hv246 dL_law_781 ?_
                                            refine rn_topi qv246.symm ?_
                                            obtain ⟨b247, hb247, h214⟩ := bnd_some h213
                                            obtain ⟨qb247, kb247⟩ := chk_elim hb247
                                            cases qb247
                                            obtain ⟨v248, u249, hv248, h215⟩ := bnd2_some h214
                                            refine rn_callV (pc := 782) (n := 3) (As := [.int v244, .int v245, .int v246]) (rest := []) (eX10_tie (d := d + 24) hv248) (by omega) okX10 kb247 tw_861 tw_68 tw_858 tw_859 tw_860 (by decide +kernel) rfl (Nat.le_of_ble_eq_true rfl) dL_law_782 rfl ?_
                                            refine rn_aload_n (pc := 785) 2 dL_law_785 rfl rfl ?_
                                            refine rn_aload_n (pc := 786) 0 dL_law_786 rfl rfl ?_
                                            refine rn_iload_n (pc := 787) 3 dL_law_787 rfl rfl ?_
                                            refine rn_iconst (pc := 788) (v := 1) dL_law_788 (by decide) ?_
                                            refine rn_iadd (pc := 789) dL_law_789 ?_
                                            obtain ⟨v250, hv250, h216⟩ := bnd_some h215
                                            obtain ⟨hv250, qv250⟩ := ite_some hv250
                                            refine rn_sld (pc := 790) hv250 dL_law_790 ?_
                                            refine rn_topi qv250.symm ?_
                                            refine rn_aload_n (pc := 791) 0 dL_law_791 rfl rfl ?_
                                            refine rn_iload_n (pc := 792) 3 dL_law_792 rfl rfl ?_
                                            refine rn_iconst (pc := 793) (v := 2) dL_law_793 (by decide) ?_
                                            refine rn_iadd (pc := 794) dL_law_794 ?_
                                            obtain ⟨v251, hv251, h217⟩ := bnd_some h216
                                            obtain ⟨hv251, qv251⟩ := ite_some hv251
                                            refine rn_sld (pc := 795) hv251 dL_law_795 ?_
                                            refine rn_topi qv251.symm ?_
                                            refine rn_aload_n (pc := 796) 0 dL_law_796 rfl rfl ?_
                                            refine rn_iload_n (pc := 797) 3 dL_law_797 rfl rfl ?_
                                            refine rn_iconst (pc := 798) (v := 3) dL_law_798 (by decide) ?_
                                            refine rn_iadd (pc := 799) dL_law_799 ?_
                                            obtain ⟨v252, hv252, h218⟩ := bnd_some h217
                                            obtain ⟨hv252, qv252⟩ := ite_some hv252
                                            refine rn_sld (pc := 800) hv252 dL_law_800 ?_
                                            refine rn_topi qv252.symm ?_
                                            obtain ⟨b253, hb253, h219⟩ := bnd_some h218
                                            obtain ⟨qb253, kb253⟩ := chk_elim hb253
                                            cases qb253
                                            obtain ⟨v254, u255, hv254, h220⟩ := bnd2_some h219
                                            refine rn_callV (pc := 801) (n := 3) (As := [.int v250, .int v251, .int v252]) (rest := [.int v248]) (eX12_tie (d := d + 23) hv254) (by omega) okX12 kb253 tw_1374 tw_79 tw_1371 tw_1372 tw_1373 (by decide +kernel) rfl (Nat.le_of_ble_eq_true rfl) dL_law_801 rfl ?_
                                            rcases if_elim h220 with ⟨c256, h221⟩ | ⟨c256, h221⟩
                                            · refine rn_ieq_t (pc := 804) (tgt := 964) dL_law_804 (by decide) c256 ?_
                                              obtain ⟨x257, ex257, h222⟩ := nm_elim h221
                                              refine rn_iinc (pc := 964) (v := x257) (lv' := [(3, .int x257), (0, rv (some 1000050)), (1, rv (some t1)), (2, rv (some t2))]) 3 dL_law_964 rfl (by rw [ex257]; rfl) (by decide) rfl ?_
                                              refine rn_goto (pc := 967) (tgt := 18) dL_law_967 (by decide) ?_
                                              cases h222
                                              exact rn_sub [1, 2, 3, 0] rfl (k0 _ rfl)
                                            · refine rn_ieq_f (pc := 804) 964 dL_law_804 (by decide) c256 ?_
                                              cases h221
                                              exact rn_sub [] rfl (k21 _ rfl)
                                          · skip
                                            rcases if_elim h210 with ⟨c258, h223⟩ | ⟨c258, h223⟩
                                            · refine rn_tsw_in (pc := 33) (tgt := 809) (off := 776) 20 dL_law_33 c258 (by decide) (by decide) ?_
                                              refine rn_aload_n (pc := 809) 1 dL_law_809 rfl rfl ?_
                                              refine rn_aload_n (pc := 810) 0 dL_law_810 rfl rfl ?_
                                              refine rn_iload_n (pc := 811) 3 dL_law_811 rfl rfl ?_
                                              refine rn_iconst (pc := 812) (v := 1) dL_law_812 (by decide) ?_
                                              refine rn_iadd (pc := 813) dL_law_813 ?_
                                              obtain ⟨v259, hv259, h224⟩ := bnd_some h223
                                              obtain ⟨hv259, qv259⟩ := ite_some hv259
                                              refine rn_sld (pc := 814) hv259 dL_law_814 ?_
                                              refine rn_topi qv259.symm ?_
                                              refine rn_aload_n (pc := 815) 0 dL_law_815 rfl rfl ?_
                                              refine rn_iload_n (pc := 816) 3 dL_law_816 rfl rfl ?_
                                              refine rn_iconst (pc := 817) (v := 2) dL_law_817 (by decide) ?_
                                              refine rn_iadd (pc := 818) dL_law_818 ?_
                                              obtain ⟨v260, hv260, h225⟩ := bnd_some h224
                                              obtain ⟨hv260, qv260⟩ := ite_some hv260
                                              refine rn_sld (pc := 819) hv260 dL_law_819 ?_
                                              refine rn_topi qv260.symm ?_
                                              obtain ⟨b261, hb261, h226⟩ := bnd_some h225
                                              obtain ⟨qb261, kb261⟩ := chk_elim hb261
                                              cases qb261
                                              obtain ⟨v262, hv262, h227⟩ := bnd_some h226
                                              refine rn_callV (pc := 820) (n := 2) (As := [.int v259, .int v260]) (rest := []) (eX10_pumps (d := d + 22) hv262) (by omega) okX10 kb261 tw_869 tw_68 tw_866 tw_867 tw_868 (by decide +kernel) rfl (Nat.le_of_ble_eq_true rfl) dL_law_820 rfl ?_
                                              refine rn_aload_n (pc := 823) 2 dL_law_823 rfl rfl ?_
                                              refine rn_aload_n (pc := 824) 0 dL_law_824 rfl rfl ?_
                                              refine rn_iload_n (pc := 825) 3 dL_law_825 rfl rfl ?_
                                              refine rn_iconst (pc := 826) (v := 1) dL_law_826 (by decide) ?_
                                              refine rn_iadd (pc := 827) dL_law_827 ?_
                                              obtain ⟨v263, hv263, h228⟩ := bnd_some h227
                                              obtain ⟨hv263, qv263⟩ := ite_some hv263
                                              refine rn_sld (pc := 828) hv263 dL_law_828 ?_
                                              refine rn_topi qv263.symm ?_
                                              refine rn_aload_n (pc := 829) 0 dL_law_829 rfl rfl ?_
                                              refine rn_iload_n (pc := 830) 3 dL_law_830 rfl rfl ?_
                                              refine rn_iconst (pc := 831) (v := 2) dL_law_831 (by decide) ?_
                                              refine rn_iadd (pc := 832) dL_law_832 ?_
                                              obtain ⟨v264, hv264, h229⟩ := bnd_some h228
                                              obtain ⟨hv264, qv264⟩ := ite_some hv264
                                              refine rn_sld (pc := 833) hv264 dL_law_833 ?_
                                              refine rn_topi qv264.symm ?_
                                              obtain ⟨b265, hb265, h230⟩ := bnd_some h229
                                              obtain ⟨qb265, kb265⟩ := chk_elim hb265
                                              cases qb265
                                              obtain ⟨v266, hv266, h231⟩ := bnd_some h230
                                              refine rn_callV (pc := 834) (n := 2) (As := [.int v263, .int v264]) (rest := [.int v262]) (eX12_pumps (d := d + 23) hv266) (by omega) okX12 kb265 tw_1378 tw_79 tw_1375 tw_1376 tw_1377 (by decide +kernel) rfl (Nat.le_of_ble_eq_true rfl) dL_law_834 rfl ?_
                                              rcases if_elim h231 with ⟨c267, h232⟩ | ⟨c267, h232⟩
                                              · refine rn_ieq_t (pc := 837) (tgt := 964) dL_law_837 (by decide) c267 ?_
                                                obtain ⟨x268, ex268, h233⟩ := nm_elim h232
                                                refine rn_iinc (pc := 964) (v := x268) (lv' := [(3, .int x268), (0, rv (some 1000050)), (1, rv (some t1)), (2, rv (some t2))]) 3 dL_law_964 rfl (by rw [ex268]; rfl) (by decide) rfl ?_
                                                refine rn_goto (pc := 967) (tgt := 18) dL_law_967 (by decide) ?_
                                                cases h233
                                                exact rn_sub [1, 2, 3, 0] rfl (k0 _ rfl)
                                              · refine rn_ieq_f (pc := 837) 964 dL_law_837 (by decide) c267 ?_
                                                cases h232
                                                exact rn_sub [] rfl (k22 _ rfl)
                                            · skip
                                              rcases if_elim h223 with ⟨c269, h234⟩ | ⟨c269, h234⟩
                                              · refine rn_tsw_in (pc := 33) (tgt := 842) (off := 809) 21 dL_law_33 c269 (by decide) (by decide) ?_
                                                refine rn_aload_n (pc := 842) 1 dL_law_842 rfl rfl ?_
                                                refine rn_aload_n (pc := 843) 0 dL_law_843 rfl rfl ?_
                                                refine rn_iload_n (pc := 844) 3 dL_law_844 rfl rfl ?_
                                                refine rn_iconst (pc := 845) (v := 1) dL_law_845 (by decide) ?_
                                                refine rn_iadd (pc := 846) dL_law_846 ?_
                                                obtain ⟨v270, hv270, h235⟩ := bnd_some h234
                                                obtain ⟨hv270, qv270⟩ := ite_some hv270
                                                refine rn_sld (pc := 847) hv270 dL_law_847 ?_
                                                refine rn_topi qv270.symm ?_
                                                refine rn_aload_n (pc := 848) 0 dL_law_848 rfl rfl ?_
                                                refine rn_iload_n (pc := 849) 3 dL_law_849 rfl rfl ?_
                                                refine rn_iconst (pc := 850) (v := 2) dL_law_850 (by decide) ?_
                                                refine rn_iadd (pc := 851) dL_law_851 ?_
                                                obtain ⟨v271, hv271, h236⟩ := bnd_some h235
                                                obtain ⟨hv271, qv271⟩ := ite_some hv271
                                                refine rn_sld (pc := 852) hv271 dL_law_852 ?_
                                                refine rn_topi qv271.symm ?_
                                                refine rn_aload_n (pc := 853) 0 dL_law_853 rfl rfl ?_
                                                refine rn_iload_n (pc := 854) 3 dL_law_854 rfl rfl ?_
                                                refine rn_iconst (pc := 855) (v := 3) dL_law_855 (by decide) ?_
                                                refine rn_iadd (pc := 856) dL_law_856 ?_
                                                obtain ⟨v272, hv272, h237⟩ := bnd_some h236
                                                obtain ⟨hv272, qv272⟩ := ite_some hv272
                                                refine rn_sld (pc := 857) hv272 dL_law_857 ?_
                                                refine rn_topi qv272.symm ?_
                                                obtain ⟨b273, hb273, h238⟩ := bnd_some h237
                                                obtain ⟨qb273, kb273⟩ := chk_elim hb273
                                                cases qb273
                                                obtain ⟨v274, u275, hv274, h239⟩ := bnd2_some h238
                                                refine rn_callV (pc := 858) (n := 3) (As := [.int v270, .int v271, .int v272]) (rest := []) (eX10_mend (d := d + 15) hv274) (by omega) okX10 kb273 tw_881 tw_68 tw_878 tw_879 tw_880 (by decide +kernel) rfl (Nat.le_of_ble_eq_true rfl) dL_law_858 rfl ?_
                                                refine rn_aload_n (pc := 861) 2 dL_law_861 rfl rfl ?_
                                                refine rn_aload_n (pc := 862) 0 dL_law_862 rfl rfl ?_
                                                refine rn_iload_n (pc := 863) 3 dL_law_863 rfl rfl ?_
                                                refine rn_iconst (pc := 864) (v := 1) dL_law_864 (by decide) ?_
                                                refine rn_iadd (pc := 865) dL_law_865 ?_
                                                obtain ⟨v276, hv276, h240⟩ := bnd_some h239
                                                obtain ⟨hv276, qv276⟩ := ite_some hv276
                                                refine rn_sld (pc := 866) hv276 dL_law_866 ?_
                                                refine rn_topi qv276.symm ?_
                                                refine rn_aload_n (pc := 867) 0 dL_law_867 rfl rfl ?_
                                                refine rn_iload_n (pc := 868) 3 dL_law_868 rfl rfl ?_
                                                refine rn_iconst (pc := 869) (v := 2) dL_law_869 (by decide) ?_
                                                refine rn_iadd (pc := 870) dL_law_870 ?_
                                                obtain ⟨v277, hv277, h241⟩ := bnd_some h240
                                                obtain ⟨hv277, qv277⟩ := ite_some hv277
                                                refine rn_sld (pc := 871) hv277 dL_law_871 ?_
                                                refine rn_topi qv277.symm ?_
                                                refine rn_aload_n (pc := 872) 0 dL_law_872 rfl rfl ?_
                                                refine rn_iload_n (pc := 873) 3 dL_law_873 rfl rfl ?_
                                                refine rn_iconst (pc := 874) (v := 3) dL_law_874 (by decide) ?_
                                                refine rn_iadd (pc := 875) dL_law_875 ?_
                                                obtain ⟨v278, hv278, h242⟩ := bnd_some h241
                                                obtain ⟨hv278, qv278⟩ := ite_some hv278
                                                refine rn_sld (pc := 876) hv278 dL_law_876 ?_
                                                refine rn_topi qv278.symm ?_
                                                obtain ⟨b279, hb279, h243⟩ := bnd_some h242
                                                obtain ⟨qb279, kb279⟩ := chk_elim hb279
                                                cases qb279
                                                obtain ⟨v280, u281, hv280, h244⟩ := bnd2_some h243
                                                refine rn_callV (pc := 877) (n := 3) (As := [.int v276, .int v277, .int v278]) (rest := [.int v274]) (eX12_mend (d := d + 0) hv280) (by omega) okX12 kb279 tw_1385 tw_79 tw_1382 tw_1383 tw_1384 (by decide +kernel) rfl (Nat.le_of_ble_eq_true rfl) dL_law_877 rfl ?_
                                                rcases if_elim h244 with ⟨c282, h245⟩ | ⟨c282, h245⟩
                                                · refine rn_ieq_t (pc := 880) (tgt := 964) dL_law_880 (by decide) c282 ?_
                                                  obtain ⟨x283, ex283, h246⟩ := nm_elim h245
                                                  refine rn_iinc (pc := 964) (v := x283) (lv' := [(3, .int x283), (0, rv (some 1000050)), (1, rv (some t1)), (2, rv (some t2))]) 3 dL_law_964 rfl (by rw [ex283]; rfl) (by decide) rfl ?_
                                                  refine rn_goto (pc := 967) (tgt := 18) dL_law_967 (by decide) ?_
                                                  cases h246
                                                  exact rn_sub [1, 2, 3, 0] rfl (k0 _ rfl)
                                                · refine rn_ieq_f (pc := 880) 964 dL_law_880 (by decide) c282 ?_
                                                  cases h245
                                                  exact rn_sub [] rfl (k23 _ rfl)
                                              · skip
                                                rcases if_elim h234 with ⟨c284, h247⟩ | ⟨c284, h247⟩
                                                · refine rn_tsw_in (pc := 33) (tgt := 885) (off := 852) 22 dL_law_33 c284 (by decide) (by decide) ?_
                                                  refine rn_aload_n (pc := 885) 1 dL_law_885 rfl rfl ?_
                                                  refine rn_aload_n (pc := 886) 0 dL_law_886 rfl rfl ?_
                                                  refine rn_iload_n (pc := 887) 3 dL_law_887 rfl rfl ?_
                                                  refine rn_iconst (pc := 888) (v := 1) dL_law_888 (by decide) ?_
                                                  refine rn_iadd (pc := 889) dL_law_889 ?_
                                                  obtain ⟨v285, hv285, h248⟩ := bnd_some h247
                                                  obtain ⟨hv285, qv285⟩ := ite_some hv285
                                                  refine rn_sld (pc := 890) hv285 dL_law_890 ?_
                                                  refine rn_topi qv285.symm ?_
                                                  obtain ⟨b286, hb286, h249⟩ := bnd_some h248
                                                  obtain ⟨qb286, kb286⟩ := chk_elim hb286
                                                  cases qb286
                                                  obtain ⟨v287, hv287, h250⟩ := bnd_some h249
                                                  refine rn_callV (pc := 891) (n := 1) (As := [.int v285]) (rest := []) (eX10_mended (d := d + 24) hv287) (by omega) okX10 kb286 tw_924 tw_68 tw_921 tw_922 tw_923 (by decide +kernel) rfl (Nat.le_of_ble_eq_true rfl) dL_law_891 rfl ?_
                                                  refine rn_aload_n (pc := 894) 2 dL_law_894 rfl rfl ?_
                                                  refine rn_aload_n (pc := 895) 0 dL_law_895 rfl rfl ?_
                                                  refine rn_iload_n (pc := 896) 3 dL_law_896 rfl rfl ?_
                                                  refine rn_iconst (pc := 897) (v := 1) dL_law_897 (by decide) ?_
                                                  refine rn_iadd (pc := 898) dL_law_898 ?_
                                                  obtain ⟨v288, hv288, h251⟩ := bnd_some h250
                                                  obtain ⟨hv288, qv288⟩ := ite_some hv288
                                                  refine rn_sld (pc := 899) hv288 dL_law_899 ?_
                                                  refine rn_topi qv288.symm ?_
                                                  obtain ⟨b289, hb289, h252⟩ := bnd_some h251
                                                  obtain ⟨qb289, kb289⟩ := chk_elim hb289
                                                  cases qb289
                                                  obtain ⟨v290, hv290, h253⟩ := bnd_some h252
                                                  refine rn_callV (pc := 900) (n := 1) (As := [.int v288]) (rest := [.int v287]) (eX12_mended (d := d + 24) hv290) (by omega) okX12 kb289 tw_1397 tw_79 tw_1394 tw_1395 tw_1396 (by decide +kernel) rfl (Nat.le_of_ble_eq_true rfl) dL_law_900 rfl ?_
                                                  rcases if_elim h253 with ⟨c291, h254⟩ | ⟨c291, h254⟩
                                                  · refine rn_ieq_t (pc := 903) (tgt := 964) dL_law_903 (by decide) c291 ?_
                                                    obtain ⟨x292, ex292, h255⟩ := nm_elim h254
                                                    refine rn_iinc (pc := 964) (v := x292) (lv' := [(3, .int x292), (0, rv (some 1000050)), (1, rv (some t1)), (2, rv (some t2))]) 3 dL_law_964 rfl (by rw [ex292]; rfl) (by decide) rfl ?_
                                                    refine rn_goto (pc := 967) (tgt := 18) dL_law_967 (by decide) ?_
                                                    cases h255
                                                    exact rn_sub [1, 2, 3, 0] rfl (k0 _ rfl)
                                                  · refine rn_ieq_f (pc := 903) 964 dL_law_903 (by decide) c291 ?_
                                                    cases h254
                                                    exact rn_sub [] rfl (k24 _ rfl)
                                                · skip
                                                  rcases if_elim h247 with ⟨c293, h256⟩ | ⟨c293, h256⟩
                                                  · refine rn_tsw_in (pc := 33) (tgt := 908) (off := 875) 23 dL_law_33 c293 (by decide) (by decide) ?_
                                                    refine rn_aload_n (pc := 908) 1 dL_law_908 rfl rfl ?_
                                                    refine rn_aload_n (pc := 909) 0 dL_law_909 rfl rfl ?_
                                                    refine rn_iload_n (pc := 910) 3 dL_law_910 rfl rfl ?_
                                                    refine rn_iconst (pc := 911) (v := 1) dL_law_911 (by decide) ?_
                                                    refine rn_iadd (pc := 912) dL_law_912 ?_
                                                    obtain ⟨v294, hv294, h257⟩ := bnd_some h256
                                                    obtain ⟨hv294, qv294⟩ := ite_some hv294
                                                    refine rn_sld (pc := 913) hv294 dL_law_913 ?_
                                                    refine rn_topi qv294.symm ?_
                                                    refine rn_aload_n (pc := 914) 0 dL_law_914 rfl rfl ?_
                                                    refine rn_iload_n (pc := 915) 3 dL_law_915 rfl rfl ?_
                                                    refine rn_iconst (pc := 916) (v := 2) dL_law_916 (by decide) ?_
                                                    refine rn_iadd (pc := 917) dL_law_917 ?_
                                                    obtain ⟨v295, hv295, h258⟩ := bnd_some h257
                                                    obtain ⟨hv295, qv295⟩ := ite_some hv295
                                                    refine rn_sld (pc := 918) hv295 dL_law_918 ?_
                                                    refine rn_topi qv295.symm ?_
                                                    obtain ⟨b296, hb296, h259⟩ := bnd_some h258
                                                    obtain ⟨qb296, kb296⟩ := chk_elim hb296
                                                    cases qb296
                                                    obtain ⟨v297, hv297, h260⟩ := bnd_some h259
                                                    refine rn_callV (pc := 919) (n := 2) (As := [.int v294, .int v295]) (rest := []) (eX10_about (d := d + 24) hv297) (by omega) okX10 kb296 tw_928 tw_68 tw_925 tw_926 tw_927 (by decide +kernel) rfl (Nat.le_of_ble_eq_true rfl) dL_law_919 rfl ?_
                                                    refine rn_aload_n (pc := 922) 2 dL_law_922 rfl rfl ?_
                                                    refine rn_aload_n (pc := 923) 0 dL_law_923 rfl rfl ?_
                                                    refine rn_iload_n (pc := 924) 3 dL_law_924 rfl rfl ?_
                                                    refine rn_iconst (pc := 925) (v := 1) dL_law_925 (by decide) ?_
                                                    refine rn_iadd (pc := 926) dL_law_926 ?_
                                                    obtain ⟨v298, hv298, h261⟩ := bnd_some h260
                                                    obtain ⟨hv298, qv298⟩ := ite_some hv298
                                                    refine rn_sld (pc := 927) hv298 dL_law_927 ?_
                                                    refine rn_topi qv298.symm ?_
                                                    refine rn_aload_n (pc := 928) 0 dL_law_928 rfl rfl ?_
                                                    refine rn_iload_n (pc := 929) 3 dL_law_929 rfl rfl ?_
                                                    refine rn_iconst (pc := 930) (v := 2) dL_law_930 (by decide) ?_
                                                    refine rn_iadd (pc := 931) dL_law_931 ?_
                                                    obtain ⟨v299, hv299, h262⟩ := bnd_some h261
                                                    obtain ⟨hv299, qv299⟩ := ite_some hv299
                                                    refine rn_sld (pc := 932) hv299 dL_law_932 ?_
                                                    refine rn_topi qv299.symm ?_
                                                    obtain ⟨b300, hb300, h263⟩ := bnd_some h262
                                                    obtain ⟨qb300, kb300⟩ := chk_elim hb300
                                                    cases qb300
                                                    obtain ⟨v301, hv301, h264⟩ := bnd_some h263
                                                    refine rn_callV (pc := 933) (n := 2) (As := [.int v298, .int v299]) (rest := [.int v297]) (eX12_about (d := d + 23) hv301) (by omega) okX12 kb300 tw_1263 tw_79 tw_1260 tw_1261 tw_1262 (by decide +kernel) rfl (Nat.le_of_ble_eq_true rfl) dL_law_933 rfl ?_
                                                    rcases if_elim h264 with ⟨c302, h265⟩ | ⟨c302, h265⟩
                                                    · refine rn_ieq_t (pc := 936) (tgt := 964) dL_law_936 (by decide) c302 ?_
                                                      obtain ⟨x303, ex303, h266⟩ := nm_elim h265
                                                      refine rn_iinc (pc := 964) (v := x303) (lv' := [(3, .int x303), (0, rv (some 1000050)), (1, rv (some t1)), (2, rv (some t2))]) 3 dL_law_964 rfl (by rw [ex303]; rfl) (by decide) rfl ?_
                                                      refine rn_goto (pc := 967) (tgt := 18) dL_law_967 (by decide) ?_
                                                      cases h266
                                                      exact rn_sub [1, 2, 3, 0] rfl (k0 _ rfl)
                                                    · refine rn_ieq_f (pc := 936) 964 dL_law_936 (by decide) c302 ?_
                                                      cases h265
                                                      exact rn_sub [] rfl (k25 _ rfl)
                                                  · skip
                                                    rcases if_elim h256 with ⟨c304, h267⟩ | ⟨c304, h267⟩
                                                    · refine rn_tsw_in (pc := 33) (tgt := 941) (off := 908) 24 dL_law_33 c304 (by decide) (by decide) ?_
                                                      refine rn_aload_n (pc := 941) 1 dL_law_941 rfl rfl ?_
                                                      refine rn_aload_n (pc := 942) 0 dL_law_942 rfl rfl ?_
                                                      refine rn_iload_n (pc := 943) 3 dL_law_943 rfl rfl ?_
                                                      refine rn_iconst (pc := 944) (v := 1) dL_law_944 (by decide) ?_
                                                      refine rn_iadd (pc := 945) dL_law_945 ?_
                                                      obtain ⟨v305, hv305, h268⟩ := bnd_some h267
                                                      obtain ⟨hv305, qv305⟩ := ite_some hv305
                                                      refine rn_sld (pc := 946) hv305 dL_law_946 ?_
                                                      refine rn_topi qv305.symm ?_
                                                      obtain ⟨b306, hb306, h269⟩ := bnd_some h268
                                                      obtain ⟨qb306, kb306⟩ := chk_elim hb306
                                                      cases qb306
                                                      obtain ⟨v307, u308, hv307, h270⟩ := bnd2_some h269
                                                      refine rn_callV (pc := 947) (n := 1) (As := [.int v305]) (rest := []) (eX10_count (d := d + 21) hv307) (by omega) okX10 kb306 tw_932 tw_68 tw_929 tw_930 tw_931 (by decide +kernel) rfl (Nat.le_of_ble_eq_true rfl) dL_law_947 rfl ?_
                                                      refine rn_aload_n (pc := 950) 2 dL_law_950 rfl rfl ?_
                                                      refine rn_aload_n (pc := 951) 0 dL_law_951 rfl rfl ?_
                                                      refine rn_iload_n (pc := 952) 3 dL_law_952 rfl rfl ?_
                                                      refine rn_iconst (pc := 953) (v := 1) dL_law_953 (by decide) ?_
                                                      refine rn_iadd (pc := 954) dL_law_954 ?_
                                                      obtain ⟨v309, hv309, h271⟩ := bnd_some h270
                                                      obtain ⟨hv309, qv309⟩ := ite_some hv309
                                                      refine rn_sld (pc := 955) hv309 dL_law_955 ?_
                                                      refine rn_topi qv309.symm ?_
                                                      obtain ⟨b310, hb310, h272⟩ := bnd_some h271
                                                      obtain ⟨qb310, kb310⟩ := chk_elim hb310
                                                      cases qb310
                                                      obtain ⟨v311, u312, hv311, h273⟩ := bnd2_some h272
                                                      refine rn_callV (pc := 956) (n := 1) (As := [.int v309]) (rest := [.int v307]) (eX12_count (d := d + 19) hv311) (by omega) okX12 kb310 tw_1401 tw_79 tw_1398 tw_1399 tw_1400 (by decide +kernel) rfl (Nat.le_of_ble_eq_true rfl) dL_law_956 rfl ?_
                                                      rcases if_elim h273 with ⟨c313, h274⟩ | ⟨c313, h274⟩
                                                      · refine rn_ieq_t (pc := 959) (tgt := 964) dL_law_959 (by decide) c313 ?_
                                                        obtain ⟨x314, ex314, h275⟩ := nm_elim h274
                                                        refine rn_iinc (pc := 964) (v := x314) (lv' := [(3, .int x314), (0, rv (some 1000050)), (1, rv (some t1)), (2, rv (some t2))]) 3 dL_law_964 rfl (by rw [ex314]; rfl) (by decide) rfl ?_
                                                        refine rn_goto (pc := 967) (tgt := 18) dL_law_967 (by decide) ?_
                                                        cases h275
                                                        exact rn_sub [1, 2, 3, 0] rfl (k0 _ rfl)
                                                      · refine rn_ieq_f (pc := 959) 964 dL_law_959 (by decide) c313 ?_
                                                        cases h274
                                                        exact rn_sub [] rfl (k26 _ rfl)
                                                    · skip
                                                      refine rn_tsw_out (pc := 33) (tgt := 964) dL_law_33 (sw_out (n := 24) (lt_s (lt_s (lt_s (lt_s (lt_s (lt_s (lt_s (lt_s (lt_s (lt_s (lt_s (lt_s (lt_s (lt_s (lt_s (lt_s (lt_s (lt_s (lt_s (lt_s (lt_s (lt_s (lt_s (lt_s (lt_s (lt_0) c9) c28) c39) c48) c57) c66) c79) c94) c111) c124) c139) c152) c163) c172) c179) c191) c204) c217) c230) c243) c258) c269) c284) c293) c304)) (by decide) ?_
                                                      obtain ⟨x315, ex315, h276⟩ := nm_elim h267
                                                      refine rn_iinc (pc := 964) (v := x315) (lv' := [(3, .int x315), (0, rv (some 1000050)), (1, rv (some t1)), (2, rv (some t2))]) 3 dL_law_964 rfl (by rw [ex315]; rfl) (by decide) rfl ?_
                                                      refine rn_goto (pc := 967) (tgt := 18) dL_law_967 (by decide) ?_
                                                      cases h276
                                                      exact rn_sub [1, 2, 3, 0] rfl (k0 _ rfl)
theorem lL_law_18 {l : Launch} {G : Gt} {d : Nat} {t1 : Nat} {t2 : Nat} {N : Nat} {s0 : Int32 × Mem} {r : (Mem) ⊕ ((Mem) ⊕ ((Mem) ⊕ ((Mem) ⊕ ((Mem) ⊕ ((Mem) ⊕ ((Mem) ⊕ ((Mem) ⊕ ((Mem) ⊕ ((Mem) ⊕ ((Mem) ⊕ ((Mem) ⊕ ((Mem) ⊕ ((Mem) ⊕ ((Mem) ⊕ ((Mem) ⊕ ((Mem) ⊕ ((Mem) ⊕ ((Mem) ⊕ ((Mem) ⊕ ((Mem) ⊕ ((Mem) ⊕ ((Mem) ⊕ ((Mem) ⊕ ((Mem) ⊕ (Mem)))))))))))))))))))))))))} {o : Outcome} {u' : Mem} (h : lp (fun s : Int32 × Mem => bL_law_18 (gLn G) (gXs G) t1 t2 s.1 s.2) N s0 = some r) (k1 : ∀ r' : Mem, r = .inl r' → Rn l G iL_law (d + 26) 970 [] [] r' o u') (k2 : ∀ r' : Mem, r = .inr (.inl r') → Rn l G iL_law (d + 26) 209 [] [] r' o u') (k3 : ∀ r' : Mem, r = .inr (.inr (.inl r')) → Rn l G iL_law (d + 26) 232 [] [] r' o u') (k4 : ∀ r' : Mem, r = .inr (.inr (.inr (.inl r'))) → Rn l G iL_law (d + 26) 245 [] [] r' o u') (k5 : ∀ r' : Mem, r = .inr (.inr (.inr (.inr (.inl r')))) → Rn l G iL_law (d + 26) 268 [] [] r' o u') (k6 : ∀ r' : Mem, r = .inr (.inr (.inr (.inr (.inr (.inl r'))))) → Rn l G iL_law (d + 26) 291 [] [] r' o u') (k7 : ∀ r' : Mem, r = .inr (.inr (.inr (.inr (.inr (.inr (.inl r')))))) → Rn l G iL_law (d + 26) 324 [] [] r' o u') (k8 : ∀ r' : Mem, r = .inr (.inr (.inr (.inr (.inr (.inr (.inr (.inl r'))))))) → Rn l G iL_law (d + 26) 367 [] [] r' o u') (k9 : ∀ r' : Mem, r = .inr (.inr (.inr (.inr (.inr (.inr (.inr (.inr (.inl r')))))))) → Rn l G iL_law (d + 26) 420 [] [] r' o u') (k10 : ∀ r' : Mem, r = .inr (.inr (.inr (.inr (.inr (.inr (.inr (.inr (.inr (.inl r'))))))))) → Rn l G iL_law (d + 26) 463 [] [] r' o u') (k11 : ∀ r' : Mem, r = .inr (.inr (.inr (.inr (.inr (.inr (.inr (.inr (.inr (.inr (.inl r')))))))))) → Rn l G iL_law (d + 26) 506 [] [] r' o u') (k12 : ∀ r' : Mem, r = .inr (.inr (.inr (.inr (.inr (.inr (.inr (.inr (.inr (.inr (.inr (.inl r'))))))))))) → Rn l G iL_law (d + 26) 539 [] [] r' o u') (k13 : ∀ r' : Mem, r = .inr (.inr (.inr (.inr (.inr (.inr (.inr (.inr (.inr (.inr (.inr (.inr (.inl r')))))))))))) → Rn l G iL_law (d + 26) 562 [] [] r' o u') (k14 : ∀ r' : Mem, r = .inr (.inr (.inr (.inr (.inr (.inr (.inr (.inr (.inr (.inr (.inr (.inr (.inr (.inl r'))))))))))))) → Rn l G iL_law (d + 26) 585 [] [] r' o u') (k15 : ∀ r' : Mem, r = .inr (.inr (.inr (.inr (.inr (.inr (.inr (.inr (.inr (.inr (.inr (.inr (.inr (.inr (.inl r')))))))))))))) → Rn l G iL_law (d + 26) 598 [] [] r' o u') (k16 : ∀ r' : Mem, r = .inr (.inr (.inr (.inr (.inr (.inr (.inr (.inr (.inr (.inr (.inr (.inr (.inr (.inr (.inr (.inl r'))))))))))))))) → Rn l G iL_law (d + 26) 631 [] [] r' o u') (k17 : ∀ r' : Mem, r = .inr (.inr (.inr (.inr (.inr (.inr (.inr (.inr (.inr (.inr (.inr (.inr (.inr (.inr (.inr (.inr (.inl r')))))))))))))))) → Rn l G iL_law (d + 26) 664 [] [] r' o u') (k18 : ∀ r' : Mem, r = .inr (.inr (.inr (.inr (.inr (.inr (.inr (.inr (.inr (.inr (.inr (.inr (.inr (.inr (.inr (.inr (.inr (.inl r'))))))))))))))))) → Rn l G iL_law (d + 26) 697 [] [] r' o u') (k19 : ∀ r' : Mem, r = .inr (.inr (.inr (.inr (.inr (.inr (.inr (.inr (.inr (.inr (.inr (.inr (.inr (.inr (.inr (.inr (.inr (.inr (.inl r')))))))))))))))))) → Rn l G iL_law (d + 26) 730 [] [] r' o u') (k20 : ∀ r' : Mem, r = .inr (.inr (.inr (.inr (.inr (.inr (.inr (.inr (.inr (.inr (.inr (.inr (.inr (.inr (.inr (.inr (.inr (.inr (.inr (.inl r'))))))))))))))))))) → Rn l G iL_law (d + 26) 764 [] [] r' o u') (k21 : ∀ r' : Mem, r = .inr (.inr (.inr (.inr (.inr (.inr (.inr (.inr (.inr (.inr (.inr (.inr (.inr (.inr (.inr (.inr (.inr (.inr (.inr (.inr (.inl r')))))))))))))))))))) → Rn l G iL_law (d + 26) 807 [] [] r' o u') (k22 : ∀ r' : Mem, r = .inr (.inr (.inr (.inr (.inr (.inr (.inr (.inr (.inr (.inr (.inr (.inr (.inr (.inr (.inr (.inr (.inr (.inr (.inr (.inr (.inr (.inl r'))))))))))))))))))))) → Rn l G iL_law (d + 26) 840 [] [] r' o u') (k23 : ∀ r' : Mem, r = .inr (.inr (.inr (.inr (.inr (.inr (.inr (.inr (.inr (.inr (.inr (.inr (.inr (.inr (.inr (.inr (.inr (.inr (.inr (.inr (.inr (.inr (.inl r')))))))))))))))))))))) → Rn l G iL_law (d + 26) 883 [] [] r' o u') (k24 : ∀ r' : Mem, r = .inr (.inr (.inr (.inr (.inr (.inr (.inr (.inr (.inr (.inr (.inr (.inr (.inr (.inr (.inr (.inr (.inr (.inr (.inr (.inr (.inr (.inr (.inr (.inl r'))))))))))))))))))))))) → Rn l G iL_law (d + 26) 906 [] [] r' o u') (k25 : ∀ r' : Mem, r = .inr (.inr (.inr (.inr (.inr (.inr (.inr (.inr (.inr (.inr (.inr (.inr (.inr (.inr (.inr (.inr (.inr (.inr (.inr (.inr (.inr (.inr (.inr (.inr (.inl r')))))))))))))))))))))))) → Rn l G iL_law (d + 26) 939 [] [] r' o u') (k26 : ∀ r' : Mem, r = .inr (.inr (.inr (.inr (.inr (.inr (.inr (.inr (.inr (.inr (.inr (.inr (.inr (.inr (.inr (.inr (.inr (.inr (.inr (.inr (.inr (.inr (.inr (.inr (.inr (r'))))))))))))))))))))))))) → Rn l G iL_law (d + 26) 962 [] [] r' o u') : Rn l G iL_law (d + 26) 18 [(0, rv (some 1000050)), (1, rv (some t1)), (2, rv (some t2)), (3, .int s0.1)] [] s0.2 o u' :=
  lp_run (P := fun s : Int32 × Mem => Rn l G iL_law (d + 26) 18 [(0, rv (some 1000050)), (1, rv (some t1)), (2, rv (some t2)), (3, .int s.1)] [] s.2 o u') (E := fun r => (∀ r' : Mem, r = .inl r' → Rn l G iL_law (d + 26) 970 [] [] r' o u') ∧ (∀ r' : Mem, r = .inr (.inl r') → Rn l G iL_law (d + 26) 209 [] [] r' o u') ∧ (∀ r' : Mem, r = .inr (.inr (.inl r')) → Rn l G iL_law (d + 26) 232 [] [] r' o u') ∧ (∀ r' : Mem, r = .inr (.inr (.inr (.inl r'))) → Rn l G iL_law (d + 26) 245 [] [] r' o u') ∧ (∀ r' : Mem, r = .inr (.inr (.inr (.inr (.inl r')))) → Rn l G iL_law (d + 26) 268 [] [] r' o u') ∧ (∀ r' : Mem, r = .inr (.inr (.inr (.inr (.inr (.inl r'))))) → Rn l G iL_law (d + 26) 291 [] [] r' o u') ∧ (∀ r' : Mem, r = .inr (.inr (.inr (.inr (.inr (.inr (.inl r')))))) → Rn l G iL_law (d + 26) 324 [] [] r' o u') ∧ (∀ r' : Mem, r = .inr (.inr (.inr (.inr (.inr (.inr (.inr (.inl r'))))))) → Rn l G iL_law (d + 26) 367 [] [] r' o u') ∧ (∀ r' : Mem, r = .inr (.inr (.inr (.inr (.inr (.inr (.inr (.inr (.inl r')))))))) → Rn l G iL_law (d + 26) 420 [] [] r' o u') ∧ (∀ r' : Mem, r = .inr (.inr (.inr (.inr (.inr (.inr (.inr (.inr (.inr (.inl r'))))))))) → Rn l G iL_law (d + 26) 463 [] [] r' o u') ∧ (∀ r' : Mem, r = .inr (.inr (.inr (.inr (.inr (.inr (.inr (.inr (.inr (.inr (.inl r')))))))))) → Rn l G iL_law (d + 26) 506 [] [] r' o u') ∧ (∀ r' : Mem, r = .inr (.inr (.inr (.inr (.inr (.inr (.inr (.inr (.inr (.inr (.inr (.inl r'))))))))))) → Rn l G iL_law (d + 26) 539 [] [] r' o u') ∧ (∀ r' : Mem, r = .inr (.inr (.inr (.inr (.inr (.inr (.inr (.inr (.inr (.inr (.inr (.inr (.inl r')))))))))))) → Rn l G iL_law (d + 26) 562 [] [] r' o u') ∧ (∀ r' : Mem, r = .inr (.inr (.inr (.inr (.inr (.inr (.inr (.inr (.inr (.inr (.inr (.inr (.inr (.inl r'))))))))))))) → Rn l G iL_law (d + 26) 585 [] [] r' o u') ∧ (∀ r' : Mem, r = .inr (.inr (.inr (.inr (.inr (.inr (.inr (.inr (.inr (.inr (.inr (.inr (.inr (.inr (.inl r')))))))))))))) → Rn l G iL_law (d + 26) 598 [] [] r' o u') ∧ (∀ r' : Mem, r = .inr (.inr (.inr (.inr (.inr (.inr (.inr (.inr (.inr (.inr (.inr (.inr (.inr (.inr (.inr (.inl r'))))))))))))))) → Rn l G iL_law (d + 26) 631 [] [] r' o u') ∧ (∀ r' : Mem, r = .inr (.inr (.inr (.inr (.inr (.inr (.inr (.inr (.inr (.inr (.inr (.inr (.inr (.inr (.inr (.inr (.inl r')))))))))))))))) → Rn l G iL_law (d + 26) 664 [] [] r' o u') ∧ (∀ r' : Mem, r = .inr (.inr (.inr (.inr (.inr (.inr (.inr (.inr (.inr (.inr (.inr (.inr (.inr (.inr (.inr (.inr (.inr (.inl r'))))))))))))))))) → Rn l G iL_law (d + 26) 697 [] [] r' o u') ∧ (∀ r' : Mem, r = .inr (.inr (.inr (.inr (.inr (.inr (.inr (.inr (.inr (.inr (.inr (.inr (.inr (.inr (.inr (.inr (.inr (.inr (.inl r')))))))))))))))))) → Rn l G iL_law (d + 26) 730 [] [] r' o u') ∧ (∀ r' : Mem, r = .inr (.inr (.inr (.inr (.inr (.inr (.inr (.inr (.inr (.inr (.inr (.inr (.inr (.inr (.inr (.inr (.inr (.inr (.inr (.inl r'))))))))))))))))))) → Rn l G iL_law (d + 26) 764 [] [] r' o u') ∧ (∀ r' : Mem, r = .inr (.inr (.inr (.inr (.inr (.inr (.inr (.inr (.inr (.inr (.inr (.inr (.inr (.inr (.inr (.inr (.inr (.inr (.inr (.inr (.inl r')))))))))))))))))))) → Rn l G iL_law (d + 26) 807 [] [] r' o u') ∧ (∀ r' : Mem, r = .inr (.inr (.inr (.inr (.inr (.inr (.inr (.inr (.inr (.inr (.inr (.inr (.inr (.inr (.inr (.inr (.inr (.inr (.inr (.inr (.inr (.inl r'))))))))))))))))))))) → Rn l G iL_law (d + 26) 840 [] [] r' o u') ∧ (∀ r' : Mem, r = .inr (.inr (.inr (.inr (.inr (.inr (.inr (.inr (.inr (.inr (.inr (.inr (.inr (.inr (.inr (.inr (.inr (.inr (.inr (.inr (.inr (.inr (.inl r')))))))))))))))))))))) → Rn l G iL_law (d + 26) 883 [] [] r' o u') ∧ (∀ r' : Mem, r = .inr (.inr (.inr (.inr (.inr (.inr (.inr (.inr (.inr (.inr (.inr (.inr (.inr (.inr (.inr (.inr (.inr (.inr (.inr (.inr (.inr (.inr (.inr (.inl r'))))))))))))))))))))))) → Rn l G iL_law (d + 26) 906 [] [] r' o u') ∧ (∀ r' : Mem, r = .inr (.inr (.inr (.inr (.inr (.inr (.inr (.inr (.inr (.inr (.inr (.inr (.inr (.inr (.inr (.inr (.inr (.inr (.inr (.inr (.inr (.inr (.inr (.inr (.inl r')))))))))))))))))))))))) → Rn l G iL_law (d + 26) 939 [] [] r' o u') ∧ (∀ r' : Mem, r = .inr (.inr (.inr (.inr (.inr (.inr (.inr (.inr (.inr (.inr (.inr (.inr (.inr (.inr (.inr (.inr (.inr (.inr (.inr (.inr (.inr (.inr (.inr (.inr (.inr (r'))))))))))))))))))))))))) → Rn l G iL_law (d + 26) 962 [] [] r' o u')) (fun s y hy k0 kE => btL_law_18 hy (fun s' e => k0 s' e) (fun r e => (kE _ e).1 r rfl) (fun r e => (kE _ e).2.1 r rfl) (fun r e => (kE _ e).2.2.1 r rfl) (fun r e => (kE _ e).2.2.2.1 r rfl) (fun r e => (kE _ e).2.2.2.2.1 r rfl) (fun r e => (kE _ e).2.2.2.2.2.1 r rfl) (fun r e => (kE _ e).2.2.2.2.2.2.1 r rfl) (fun r e => (kE _ e).2.2.2.2.2.2.2.1 r rfl) (fun r e => (kE _ e).2.2.2.2.2.2.2.2.1 r rfl) (fun r e => (kE _ e).2.2.2.2.2.2.2.2.2.1 r rfl) (fun r e => (kE _ e).2.2.2.2.2.2.2.2.2.2.1 r rfl) (fun r e => (kE _ e).2.2.2.2.2.2.2.2.2.2.2.1 r rfl) (fun r e => (kE _ e).2.2.2.2.2.2.2.2.2.2.2.2.1 r rfl) (fun r e => (kE _ e).2.2.2.2.2.2.2.2.2.2.2.2.2.1 r rfl) (fun r e => (kE _ e).2.2.2.2.2.2.2.2.2.2.2.2.2.2.1 r rfl) (fun r e => (kE _ e).2.2.2.2.2.2.2.2.2.2.2.2.2.2.2.1 r rfl) (fun r e => (kE _ e).2.2.2.2.2.2.2.2.2.2.2.2.2.2.2.2.1 r rfl) (fun r e => (kE _ e).2.2.2.2.2.2.2.2.2.2.2.2.2.2.2.2.2.1 r rfl) (fun r e => (kE _ e).2.2.2.2.2.2.2.2.2.2.2.2.2.2.2.2.2.2.1 r rfl) (fun r e => (kE _ e).2.2.2.2.2.2.2.2.2.2.2.2.2.2.2.2.2.2.2.1 r rfl) (fun r e => (kE _ e).2.2.2.2.2.2.2.2.2.2.2.2.2.2.2.2.2.2.2.2.1 r rfl) (fun r e => (kE _ e).2.2.2.2.2.2.2.2.2.2.2.2.2.2.2.2.2.2.2.2.2.1 r rfl) (fun r e => (kE _ e).2.2.2.2.2.2.2.2.2.2.2.2.2.2.2.2.2.2.2.2.2.2.1 r rfl) (fun r e => (kE _ e).2.2.2.2.2.2.2.2.2.2.2.2.2.2.2.2.2.2.2.2.2.2.2.1 r rfl) (fun r e => (kE _ e).2.2.2.2.2.2.2.2.2.2.2.2.2.2.2.2.2.2.2.2.2.2.2.2.1 r rfl) (fun r e => (kE _ e).2.2.2.2.2.2.2.2.2.2.2.2.2.2.2.2.2.2.2.2.2.2.2.2.2 r rfl)) N s0 r h ⟨k1, k2, k3, k4, k5, k6, k7, k8, k9, k10, k11, k12, k13, k14, k15, k16, k17, k18, k19, k20, k21, k22, k23, k24, k25, k26⟩
theorem tL_law {l : Launch} {G : Gt} {d : Nat} {u : Mem} {y : Int32 × Mem} (h : fL_law (gLn G) (gXs G) u = some y) : Rn l G iL_law (d + 26) 0 [(0, rv (some 1000050))] [] u (.returned (some (.int y.1))) y.2 := by
  unfold fL_law at h
  obtain ⟨a1, u2, ha1, h1⟩ := bnd2_some h
  refine rn_new (pc := 0) okX10 (by decide +kernel) tw_91 tw_92 tw_68 dL_law_0 ha1 ?_
  refine rn_dup (pc := 3) dL_law_3 (rv_cat _) ?_
  obtain ⟨u3, hu3, h2⟩ := bnd_some h1
  refine rn_callI (pc := 4) (n := 0) (As := []) (rest := [rv (some a1)]) (eX10_init (d := d + 22) hu3) (by omega) rfl tw_95 tw_68 tw_93 tw_94 rfl (by decide +kernel) rfl (Nat.le_of_ble_eq_true rfl) dL_law_4 rfl ?_
  refine rn_astore_n (pc := 7) (lv' := [(1, rv (some a1)), (0, rv (some 1000050))]) dL_law_7 rfl (by decide) rfl ?_
  obtain ⟨a4, u5, ha4, h3⟩ := bnd2_some h2
  refine rn_new (pc := 8) okX12 (by decide +kernel) tw_937 tw_938 tw_79 dL_law_8 ha4 ?_
  refine rn_dup (pc := 11) dL_law_11 (rv_cat _) ?_
  obtain ⟨u6, hu6, h4⟩ := bnd_some h3
  refine rn_callI (pc := 12) (n := 0) (As := []) (rest := [rv (some a4)]) (eX12_init (d := d + 21) hu6) (by omega) rfl tw_941 tw_79 tw_939 tw_940 rfl (by decide +kernel) rfl (Nat.le_of_ble_eq_true rfl) dL_law_12 rfl ?_
  refine rn_astore_n (pc := 15) (lv' := [(2, rv (some a4)), (1, rv (some a1)), (0, rv (some 1000050))]) dL_law_15 rfl (by decide) rfl ?_
  refine rn_iconst (pc := 16) (v := 0) dL_law_16 (by decide) ?_
  refine rn_istore_n (pc := 17) (lv' := [(3, .int (0 : Int32)), (2, rv (some a4)), (1, rv (some a1)), (0, rv (some 1000050))]) dL_law_17 rfl (by decide) rfl ?_
  obtain ⟨r316, hr316, h5⟩ := bnd_some h4
  rcases r316 with r317 | r318
  · refine rn_sub [3, 2, 1, 0] rfl (lL_law_18 hr316 (fun _ hq => ?_) (fun _ hq => by cases hq) (fun _ hq => by cases hq) (fun _ hq => by cases hq) (fun _ hq => by cases hq) (fun _ hq => by cases hq) (fun _ hq => by cases hq) (fun _ hq => by cases hq) (fun _ hq => by cases hq) (fun _ hq => by cases hq) (fun _ hq => by cases hq) (fun _ hq => by cases hq) (fun _ hq => by cases hq) (fun _ hq => by cases hq) (fun _ hq => by cases hq) (fun _ hq => by cases hq) (fun _ hq => by cases hq) (fun _ hq => by cases hq) (fun _ hq => by cases hq) (fun _ hq => by cases hq) (fun _ hq => by cases hq) (fun _ hq => by cases hq) (fun _ hq => by cases hq) (fun _ hq => by cases hq) (fun _ hq => by cases hq) (fun _ hq => by cases hq))
    cases hq
    have h6 := sumE_l h5
    refine rn_iconst (pc := 970) (v := 1) dL_law_970 (by decide) ?_
    cases h6
    exact rn_zret (pc := 971) (by decide) rfl dL_law_971
  · have h7 := sumE_r h5
    rcases r318 with r319 | r320
    · refine rn_sub [3, 2, 1, 0] rfl (lL_law_18 hr316 (fun _ hq => by cases hq) (fun _ hq => ?_) (fun _ hq => by cases hq) (fun _ hq => by cases hq) (fun _ hq => by cases hq) (fun _ hq => by cases hq) (fun _ hq => by cases hq) (fun _ hq => by cases hq) (fun _ hq => by cases hq) (fun _ hq => by cases hq) (fun _ hq => by cases hq) (fun _ hq => by cases hq) (fun _ hq => by cases hq) (fun _ hq => by cases hq) (fun _ hq => by cases hq) (fun _ hq => by cases hq) (fun _ hq => by cases hq) (fun _ hq => by cases hq) (fun _ hq => by cases hq) (fun _ hq => by cases hq) (fun _ hq => by cases hq) (fun _ hq => by cases hq) (fun _ hq => by cases hq) (fun _ hq => by cases hq) (fun _ hq => by cases hq) (fun _ hq => by cases hq))
      cases hq
      have h8 := sumE_l h7
      refine rn_iconst (pc := 209) (v := 0) dL_law_209 (by decide) ?_
      cases h8
      exact rn_zret (pc := 210) (by decide) rfl dL_law_210
    · have h9 := sumE_r h7
      rcases r320 with r321 | r322
      · refine rn_sub [3, 2, 1, 0] rfl (lL_law_18 hr316 (fun _ hq => by cases hq) (fun _ hq => by cases hq) (fun _ hq => ?_) (fun _ hq => by cases hq) (fun _ hq => by cases hq) (fun _ hq => by cases hq) (fun _ hq => by cases hq) (fun _ hq => by cases hq) (fun _ hq => by cases hq) (fun _ hq => by cases hq) (fun _ hq => by cases hq) (fun _ hq => by cases hq) (fun _ hq => by cases hq) (fun _ hq => by cases hq) (fun _ hq => by cases hq) (fun _ hq => by cases hq) (fun _ hq => by cases hq) (fun _ hq => by cases hq) (fun _ hq => by cases hq) (fun _ hq => by cases hq) (fun _ hq => by cases hq) (fun _ hq => by cases hq) (fun _ hq => by cases hq) (fun _ hq => by cases hq) (fun _ hq => by cases hq) (fun _ hq => by cases hq))
        cases hq
        have h10 := sumE_l h9
        refine rn_iconst (pc := 232) (v := 0) dL_law_232 (by decide) ?_
        cases h10
        exact rn_zret (pc := 233) (by decide) rfl dL_law_233
      · have h11 := sumE_r h9
        rcases r322 with r323 | r324
        · refine rn_sub [3, 2, 1, 0] rfl (lL_law_18 hr316 (fun _ hq => by cases hq) (fun _ hq => by cases hq) (fun _ hq => by cases hq) (fun _ hq => ?_) (fun _ hq => by cases hq) (fun _ hq => by cases hq) (fun _ hq => by cases hq) (fun _ hq => by cases hq) (fun _ hq => by cases hq) (fun _ hq => by cases hq) (fun _ hq => by cases hq) (fun _ hq => by cases hq) (fun _ hq => by cases hq) (fun _ hq => by cases hq) (fun _ hq => by cases hq) (fun _ hq => by cases hq) (fun _ hq => by cases hq) (fun _ hq => by cases hq) (fun _ hq => by cases hq) (fun _ hq => by cases hq) (fun _ hq => by cases hq) (fun _ hq => by cases hq) (fun _ hq => by cases hq) (fun _ hq => by cases hq) (fun _ hq => by cases hq) (fun _ hq => by cases hq))
          cases hq
          have h12 := sumE_l h11
          refine rn_iconst (pc := 245) (v := 0) dL_law_245 (by decide) ?_
          cases h12
          exact rn_zret (pc := 246) (by decide) rfl dL_law_246
        · have h13 := sumE_r h11
          rcases r324 with r325 | r326
          · refine rn_sub [3, 2, 1, 0] rfl (lL_law_18 hr316 (fun _ hq => by cases hq) (fun _ hq => by cases hq) (fun _ hq => by cases hq) (fun _ hq => by cases hq) (fun _ hq => ?_) (fun _ hq => by cases hq) (fun _ hq => by cases hq) (fun _ hq => by cases hq) (fun _ hq => by cases hq) (fun _ hq => by cases hq) (fun _ hq => by cases hq) (fun _ hq => by cases hq) (fun _ hq => by cases hq) (fun _ hq => by cases hq) (fun _ hq => by cases hq) (fun _ hq => by cases hq) (fun _ hq => by cases hq) (fun _ hq => by cases hq) (fun _ hq => by cases hq) (fun _ hq => by cases hq) (fun _ hq => by cases hq) (fun _ hq => by cases hq) (fun _ hq => by cases hq) (fun _ hq => by cases hq) (fun _ hq => by cases hq) (fun _ hq => by cases hq))
            cases hq
            have h14 := sumE_l h13
            refine rn_iconst (pc := 268) (v := 0) dL_law_268 (by decide) ?_
            cases h14
            exact rn_zret (pc := 269) (by decide) rfl dL_law_269
          · have h15 := sumE_r h13
            rcases r326 with r327 | r328
            · refine rn_sub [3, 2, 1, 0] rfl (lL_law_18 hr316 (fun _ hq => by cases hq) (fun _ hq => by cases hq) (fun _ hq => by cases hq) (fun _ hq => by cases hq) (fun _ hq => by cases hq) (fun _ hq => ?_) (fun _ hq => by cases hq) (fun _ hq => by cases hq) (fun _ hq => by cases hq) (fun _ hq => by cases hq) (fun _ hq => by cases hq) (fun _ hq => by cases hq) (fun _ hq => by cases hq) (fun _ hq => by cases hq) (fun _ hq => by cases hq) (fun _ hq => by cases hq) (fun _ hq => by cases hq) (fun _ hq => by cases hq) (fun _ hq => by cases hq) (fun _ hq => by cases hq) (fun _ hq => by cases hq) (fun _ hq => by cases hq) (fun _ hq => by cases hq) (fun _ hq => by cases hq) (fun _ hq => by cases hq) (fun _ hq => by cases hq))
              cases hq
              have h16 := sumE_l h15
              refine rn_iconst (pc := 291) (v := 0) dL_law_291 (by decide) ?_
              cases h16
              exact rn_zret (pc := 292) (by decide) rfl dL_law_292
            · have h17 := sumE_r h15
              rcases r328 with r329 | r330
              · refine rn_sub [3, 2, 1, 0] rfl (lL_law_18 hr316 (fun _ hq => by cases hq) (fun _ hq => by cases hq) (fun _ hq => by cases hq) (fun _ hq => by cases hq) (fun _ hq => by cases hq) (fun _ hq => by cases hq) (fun _ hq => ?_) (fun _ hq => by cases hq) (fun _ hq => by cases hq) (fun _ hq => by cases hq) (fun _ hq => by cases hq) (fun _ hq => by cases hq) (fun _ hq => by cases hq) (fun _ hq => by cases hq) (fun _ hq => by cases hq) (fun _ hq => by cases hq) (fun _ hq => by cases hq) (fun _ hq => by cases hq) (fun _ hq => by cases hq) (fun _ hq => by cases hq) (fun _ hq => by cases hq) (fun _ hq => by cases hq) (fun _ hq => by cases hq) (fun _ hq => by cases hq) (fun _ hq => by cases hq) (fun _ hq => by cases hq))
                cases hq
                have h18 := sumE_l h17
                refine rn_iconst (pc := 324) (v := 0) dL_law_324 (by decide) ?_
                cases h18
                exact rn_zret (pc := 325) (by decide) rfl dL_law_325
              · have h19 := sumE_r h17
                rcases r330 with r331 | r332
                · refine rn_sub [3, 2, 1, 0] rfl (lL_law_18 hr316 (fun _ hq => by cases hq) (fun _ hq => by cases hq) (fun _ hq => by cases hq) (fun _ hq => by cases hq) (fun _ hq => by cases hq) (fun _ hq => by cases hq) (fun _ hq => by cases hq) (fun _ hq => ?_) (fun _ hq => by cases hq) (fun _ hq => by cases hq) (fun _ hq => by cases hq) (fun _ hq => by cases hq) (fun _ hq => by cases hq) (fun _ hq => by cases hq) (fun _ hq => by cases hq) (fun _ hq => by cases hq) (fun _ hq => by cases hq) (fun _ hq => by cases hq) (fun _ hq => by cases hq) (fun _ hq => by cases hq) (fun _ hq => by cases hq) (fun _ hq => by cases hq) (fun _ hq => by cases hq) (fun _ hq => by cases hq) (fun _ hq => by cases hq) (fun _ hq => by cases hq))
                  cases hq
                  have h20 := sumE_l h19
                  refine rn_iconst (pc := 367) (v := 0) dL_law_367 (by decide) ?_
                  cases h20
                  exact rn_zret (pc := 368) (by decide) rfl dL_law_368
                · have h21 := sumE_r h19
                  rcases r332 with r333 | r334
                  · refine rn_sub [3, 2, 1, 0] rfl (lL_law_18 hr316 (fun _ hq => by cases hq) (fun _ hq => by cases hq) (fun _ hq => by cases hq) (fun _ hq => by cases hq) (fun _ hq => by cases hq) (fun _ hq => by cases hq) (fun _ hq => by cases hq) (fun _ hq => by cases hq) (fun _ hq => ?_) (fun _ hq => by cases hq) (fun _ hq => by cases hq) (fun _ hq => by cases hq) (fun _ hq => by cases hq) (fun _ hq => by cases hq) (fun _ hq => by cases hq) (fun _ hq => by cases hq) (fun _ hq => by cases hq) (fun _ hq => by cases hq) (fun _ hq => by cases hq) (fun _ hq => by cases hq) (fun _ hq => by cases hq) (fun _ hq => by cases hq) (fun _ hq => by cases hq) (fun _ hq => by cases hq) (fun _ hq => by cases hq) (fun _ hq => by cases hq))
                    cases hq
                    have h22 := sumE_l h21
                    refine rn_iconst (pc := 420) (v := 0) dL_law_420 (by decide) ?_
                    cases h22
                    exact rn_zret (pc := 421) (by decide) rfl dL_law_421
                  · have h23 := sumE_r h21
                    rcases r334 with r335 | r336
                    · refine rn_sub [3, 2, 1, 0] rfl (lL_law_18 hr316 (fun _ hq => by cases hq) (fun _ hq => by cases hq) (fun _ hq => by cases hq) (fun _ hq => by cases hq) (fun _ hq => by cases hq) (fun _ hq => by cases hq) (fun _ hq => by cases hq) (fun _ hq => by cases hq) (fun _ hq => by cases hq) (fun _ hq => ?_) (fun _ hq => by cases hq) (fun _ hq => by cases hq) (fun _ hq => by cases hq) (fun _ hq => by cases hq) (fun _ hq => by cases hq) (fun _ hq => by cases hq) (fun _ hq => by cases hq) (fun _ hq => by cases hq) (fun _ hq => by cases hq) (fun _ hq => by cases hq) (fun _ hq => by cases hq) (fun _ hq => by cases hq) (fun _ hq => by cases hq) (fun _ hq => by cases hq) (fun _ hq => by cases hq) (fun _ hq => by cases hq))
                      cases hq
                      have h24 := sumE_l h23
                      refine rn_iconst (pc := 463) (v := 0) dL_law_463 (by decide) ?_
                      cases h24
                      exact rn_zret (pc := 464) (by decide) rfl dL_law_464
                    · have h25 := sumE_r h23
                      rcases r336 with r337 | r338
                      · refine rn_sub [3, 2, 1, 0] rfl (lL_law_18 hr316 (fun _ hq => by cases hq) (fun _ hq => by cases hq) (fun _ hq => by cases hq) (fun _ hq => by cases hq) (fun _ hq => by cases hq) (fun _ hq => by cases hq) (fun _ hq => by cases hq) (fun _ hq => by cases hq) (fun _ hq => by cases hq) (fun _ hq => by cases hq) (fun _ hq => ?_) (fun _ hq => by cases hq) (fun _ hq => by cases hq) (fun _ hq => by cases hq) (fun _ hq => by cases hq) (fun _ hq => by cases hq) (fun _ hq => by cases hq) (fun _ hq => by cases hq) (fun _ hq => by cases hq) (fun _ hq => by cases hq) (fun _ hq => by cases hq) (fun _ hq => by cases hq) (fun _ hq => by cases hq) (fun _ hq => by cases hq) (fun _ hq => by cases hq) (fun _ hq => by cases hq))
                        cases hq
                        have h26 := sumE_l h25
                        refine rn_iconst (pc := 506) (v := 0) dL_law_506 (by decide) ?_
                        cases h26
                        exact rn_zret (pc := 507) (by decide) rfl dL_law_507
                      · have h27 := sumE_r h25
                        rcases r338 with r339 | r340
                        · refine rn_sub [3, 2, 1, 0] rfl (lL_law_18 hr316 (fun _ hq => by cases hq) (fun _ hq => by cases hq) (fun _ hq => by cases hq) (fun _ hq => by cases hq) (fun _ hq => by cases hq) (fun _ hq => by cases hq) (fun _ hq => by cases hq) (fun _ hq => by cases hq) (fun _ hq => by cases hq) (fun _ hq => by cases hq) (fun _ hq => by cases hq) (fun _ hq => ?_) (fun _ hq => by cases hq) (fun _ hq => by cases hq) (fun _ hq => by cases hq) (fun _ hq => by cases hq) (fun _ hq => by cases hq) (fun _ hq => by cases hq) (fun _ hq => by cases hq) (fun _ hq => by cases hq) (fun _ hq => by cases hq) (fun _ hq => by cases hq) (fun _ hq => by cases hq) (fun _ hq => by cases hq) (fun _ hq => by cases hq) (fun _ hq => by cases hq))
                          cases hq
                          have h28 := sumE_l h27
                          refine rn_iconst (pc := 539) (v := 0) dL_law_539 (by decide) ?_
                          cases h28
                          exact rn_zret (pc := 540) (by decide) rfl dL_law_540
                        · have h29 := sumE_r h27
                          rcases r340 with r341 | r342
                          · refine rn_sub [3, 2, 1, 0] rfl (lL_law_18 hr316 (fun _ hq => by cases hq) (fun _ hq => by cases hq) (fun _ hq => by cases hq) (fun _ hq => by cases hq) (fun _ hq => by cases hq) (fun _ hq => by cases hq) (fun _ hq => by cases hq) (fun _ hq => by cases hq) (fun _ hq => by cases hq) (fun _ hq => by cases hq) (fun _ hq => by cases hq) (fun _ hq => by cases hq) (fun _ hq => ?_) (fun _ hq => by cases hq) (fun _ hq => by cases hq) (fun _ hq => by cases hq) (fun _ hq => by cases hq) (fun _ hq => by cases hq) (fun _ hq => by cases hq) (fun _ hq => by cases hq) (fun _ hq => by cases hq) (fun _ hq => by cases hq) (fun _ hq => by cases hq) (fun _ hq => by cases hq) (fun _ hq => by cases hq) (fun _ hq => by cases hq))
                            cases hq
                            have h30 := sumE_l h29
                            refine rn_iconst (pc := 562) (v := 0) dL_law_562 (by decide) ?_
                            cases h30
                            exact rn_zret (pc := 563) (by decide) rfl dL_law_563
                          · have h31 := sumE_r h29
                            rcases r342 with r343 | r344
                            · refine rn_sub [3, 2, 1, 0] rfl (lL_law_18 hr316 (fun _ hq => by cases hq) (fun _ hq => by cases hq) (fun _ hq => by cases hq) (fun _ hq => by cases hq) (fun _ hq => by cases hq) (fun _ hq => by cases hq) (fun _ hq => by cases hq) (fun _ hq => by cases hq) (fun _ hq => by cases hq) (fun _ hq => by cases hq) (fun _ hq => by cases hq) (fun _ hq => by cases hq) (fun _ hq => by cases hq) (fun _ hq => ?_) (fun _ hq => by cases hq) (fun _ hq => by cases hq) (fun _ hq => by cases hq) (fun _ hq => by cases hq) (fun _ hq => by cases hq) (fun _ hq => by cases hq) (fun _ hq => by cases hq) (fun _ hq => by cases hq) (fun _ hq => by cases hq) (fun _ hq => by cases hq) (fun _ hq => by cases hq) (fun _ hq => by cases hq))
                              cases hq
                              have h32 := sumE_l h31
                              refine rn_iconst (pc := 585) (v := 0) dL_law_585 (by decide) ?_
                              cases h32
                              exact rn_zret (pc := 586) (by decide) rfl dL_law_586
                            · have h33 := sumE_r h31
                              rcases r344 with r345 | r346
                              · refine rn_sub [3, 2, 1, 0] rfl (lL_law_18 hr316 (fun _ hq => by cases hq) (fun _ hq => by cases hq) (fun _ hq => by cases hq) (fun _ hq => by cases hq) (fun _ hq => by cases hq) (fun _ hq => by cases hq) (fun _ hq => by cases hq) (fun _ hq => by cases hq) (fun _ hq => by cases hq) (fun _ hq => by cases hq) (fun _ hq => by cases hq) (fun _ hq => by cases hq) (fun _ hq => by cases hq) (fun _ hq => by cases hq) (fun _ hq => ?_) (fun _ hq => by cases hq) (fun _ hq => by cases hq) (fun _ hq => by cases hq) (fun _ hq => by cases hq) (fun _ hq => by cases hq) (fun _ hq => by cases hq) (fun _ hq => by cases hq) (fun _ hq => by cases hq) (fun _ hq => by cases hq) (fun _ hq => by cases hq) (fun _ hq => by cases hq))
                                cases hq
                                have h34 := sumE_l h33
                                refine rn_iconst (pc := 598) (v := 0) dL_law_598 (by decide) ?_
                                cases h34
                                exact rn_zret (pc := 599) (by decide) rfl dL_law_599
                              · have h35 := sumE_r h33
                                rcases r346 with r347 | r348
                                · refine rn_sub [3, 2, 1, 0] rfl (lL_law_18 hr316 (fun _ hq => by cases hq) (fun _ hq => by cases hq) (fun _ hq => by cases hq) (fun _ hq => by cases hq) (fun _ hq => by cases hq) (fun _ hq => by cases hq) (fun _ hq => by cases hq) (fun _ hq => by cases hq) (fun _ hq => by cases hq) (fun _ hq => by cases hq) (fun _ hq => by cases hq) (fun _ hq => by cases hq) (fun _ hq => by cases hq) (fun _ hq => by cases hq) (fun _ hq => by cases hq) (fun _ hq => ?_) (fun _ hq => by cases hq) (fun _ hq => by cases hq) (fun _ hq => by cases hq) (fun _ hq => by cases hq) (fun _ hq => by cases hq) (fun _ hq => by cases hq) (fun _ hq => by cases hq) (fun _ hq => by cases hq) (fun _ hq => by cases hq) (fun _ hq => by cases hq))
                                  cases hq
                                  have h36 := sumE_l h35
                                  refine rn_iconst (pc := 631) (v := 0) dL_law_631 (by decide) ?_
                                  cases h36
                                  exact rn_zret (pc := 632) (by decide) rfl dL_law_632
                                · have h37 := sumE_r h35
                                  rcases r348 with r349 | r350
                                  · refine rn_sub [3, 2, 1, 0] rfl (lL_law_18 hr316 (fun _ hq => by cases hq) (fun _ hq => by cases hq) (fun _ hq => by cases hq) (fun _ hq => by cases hq) (fun _ hq => by cases hq) (fun _ hq => by cases hq) (fun _ hq => by cases hq) (fun _ hq => by cases hq) (fun _ hq => by cases hq) (fun _ hq => by cases hq) (fun _ hq => by cases hq) (fun _ hq => by cases hq) (fun _ hq => by cases hq) (fun _ hq => by cases hq) (fun _ hq => by cases hq) (fun _ hq => by cases hq) (fun _ hq => ?_) (fun _ hq => by cases hq) (fun _ hq => by cases hq) (fun _ hq => by cases hq) (fun _ hq => by cases hq) (fun _ hq => by cases hq) (fun _ hq => by cases hq) (fun _ hq => by cases hq) (fun _ hq => by cases hq) (fun _ hq => by cases hq))
                                    cases hq
                                    have h38 := sumE_l h37
                                    refine rn_iconst (pc := 664) (v := 0) dL_law_664 (by decide) ?_
                                    cases h38
                                    exact rn_zret (pc := 665) (by decide) rfl dL_law_665
                                  · have h39 := sumE_r h37
                                    rcases r350 with r351 | r352
                                    · refine rn_sub [3, 2, 1, 0] rfl (lL_law_18 hr316 (fun _ hq => by cases hq) (fun _ hq => by cases hq) (fun _ hq => by cases hq) (fun _ hq => by cases hq) (fun _ hq => by cases hq) (fun _ hq => by cases hq) (fun _ hq => by cases hq) (fun _ hq => by cases hq) (fun _ hq => by cases hq) (fun _ hq => by cases hq) (fun _ hq => by cases hq) (fun _ hq => by cases hq) (fun _ hq => by cases hq) (fun _ hq => by cases hq) (fun _ hq => by cases hq) (fun _ hq => by cases hq) (fun _ hq => by cases hq) (fun _ hq => ?_) (fun _ hq => by cases hq) (fun _ hq => by cases hq) (fun _ hq => by cases hq) (fun _ hq => by cases hq) (fun _ hq => by cases hq) (fun _ hq => by cases hq) (fun _ hq => by cases hq) (fun _ hq => by cases hq))
                                      cases hq
                                      have h40 := sumE_l h39
                                      refine rn_iconst (pc := 697) (v := 0) dL_law_697 (by decide) ?_
                                      cases h40
                                      exact rn_zret (pc := 698) (by decide) rfl dL_law_698
                                    · have h41 := sumE_r h39
                                      rcases r352 with r353 | r354
                                      · refine rn_sub [3, 2, 1, 0] rfl (lL_law_18 hr316 (fun _ hq => by cases hq) (fun _ hq => by cases hq) (fun _ hq => by cases hq) (fun _ hq => by cases hq) (fun _ hq => by cases hq) (fun _ hq => by cases hq) (fun _ hq => by cases hq) (fun _ hq => by cases hq) (fun _ hq => by cases hq) (fun _ hq => by cases hq) (fun _ hq => by cases hq) (fun _ hq => by cases hq) (fun _ hq => by cases hq) (fun _ hq => by cases hq) (fun _ hq => by cases hq) (fun _ hq => by cases hq) (fun _ hq => by cases hq) (fun _ hq => by cases hq) (fun _ hq => ?_) (fun _ hq => by cases hq) (fun _ hq => by cases hq) (fun _ hq => by cases hq) (fun _ hq => by cases hq) (fun _ hq => by cases hq) (fun _ hq => by cases hq) (fun _ hq => by cases hq))
                                        cases hq
                                        have h42 := sumE_l h41
                                        refine rn_iconst (pc := 730) (v := 0) dL_law_730 (by decide) ?_
                                        cases h42
                                        exact rn_zret (pc := 731) (by decide) rfl dL_law_731
                                      · have h43 := sumE_r h41
                                        rcases r354 with r355 | r356
                                        · refine rn_sub [3, 2, 1, 0] rfl (lL_law_18 hr316 (fun _ hq => by cases hq) (fun _ hq => by cases hq) (fun _ hq => by cases hq) (fun _ hq => by cases hq) (fun _ hq => by cases hq) (fun _ hq => by cases hq) (fun _ hq => by cases hq) (fun _ hq => by cases hq) (fun _ hq => by cases hq) (fun _ hq => by cases hq) (fun _ hq => by cases hq) (fun _ hq => by cases hq) (fun _ hq => by cases hq) (fun _ hq => by cases hq) (fun _ hq => by cases hq) (fun _ hq => by cases hq) (fun _ hq => by cases hq) (fun _ hq => by cases hq) (fun _ hq => by cases hq) (fun _ hq => ?_) (fun _ hq => by cases hq) (fun _ hq => by cases hq) (fun _ hq => by cases hq) (fun _ hq => by cases hq) (fun _ hq => by cases hq) (fun _ hq => by cases hq))
                                          cases hq
                                          have h44 := sumE_l h43
                                          refine rn_iconst (pc := 764) (v := 0) dL_law_764 (by decide) ?_
                                          cases h44
                                          exact rn_zret (pc := 765) (by decide) rfl dL_law_765
                                        · have h45 := sumE_r h43
                                          rcases r356 with r357 | r358
                                          · refine rn_sub [3, 2, 1, 0] rfl (lL_law_18 hr316 (fun _ hq => by cases hq) (fun _ hq => by cases hq) (fun _ hq => by cases hq) (fun _ hq => by cases hq) (fun _ hq => by cases hq) (fun _ hq => by cases hq) (fun _ hq => by cases hq) (fun _ hq => by cases hq) (fun _ hq => by cases hq) (fun _ hq => by cases hq) (fun _ hq => by cases hq) (fun _ hq => by cases hq) (fun _ hq => by cases hq) (fun _ hq => by cases hq) (fun _ hq => by cases hq) (fun _ hq => by cases hq) (fun _ hq => by cases hq) (fun _ hq => by cases hq) (fun _ hq => by cases hq) (fun _ hq => by cases hq) (fun _ hq => ?_) (fun _ hq => by cases hq) (fun _ hq => by cases hq) (fun _ hq => by cases hq) (fun _ hq => by cases hq) (fun _ hq => by cases hq))
                                            cases hq
                                            have h46 := sumE_l h45
                                            refine rn_iconst (pc := 807) (v := 0) dL_law_807 (by decide) ?_
                                            cases h46
                                            exact rn_zret (pc := 808) (by decide) rfl dL_law_808
                                          · have h47 := sumE_r h45
                                            rcases r358 with r359 | r360
                                            · refine rn_sub [3, 2, 1, 0] rfl (lL_law_18 hr316 (fun _ hq => by cases hq) (fun _ hq => by cases hq) (fun _ hq => by cases hq) (fun _ hq => by cases hq) (fun _ hq => by cases hq) (fun _ hq => by cases hq) (fun _ hq => by cases hq) (fun _ hq => by cases hq) (fun _ hq => by cases hq) (fun _ hq => by cases hq) (fun _ hq => by cases hq) (fun _ hq => by cases hq) (fun _ hq => by cases hq) (fun _ hq => by cases hq) (fun _ hq => by cases hq) (fun _ hq => by cases hq) (fun _ hq => by cases hq) (fun _ hq => by cases hq) (fun _ hq => by cases hq) (fun _ hq => by cases hq) (fun _ hq => by cases hq) (fun _ hq => ?_) (fun _ hq => by cases hq) (fun _ hq => by cases hq) (fun _ hq => by cases hq) (fun _ hq => by cases hq))
                                              cases hq
                                              have h48 := sumE_l h47
                                              refine rn_iconst (pc := 840) (v := 0) dL_law_840 (by decide) ?_
                                              cases h48
                                              exact rn_zret (pc := 841) (by decide) rfl dL_law_841
                                            · have h49 := sumE_r h47
                                              rcases r360 with r361 | r362
                                              · refine rn_sub [3, 2, 1, 0] rfl (lL_law_18 hr316 (fun _ hq => by cases hq) (fun _ hq => by cases hq) (fun _ hq => by cases hq) (fun _ hq => by cases hq) (fun _ hq => by cases hq) (fun _ hq => by cases hq) (fun _ hq => by cases hq) (fun _ hq => by cases hq) (fun _ hq => by cases hq) (fun _ hq => by cases hq) (fun _ hq => by cases hq) (fun _ hq => by cases hq) (fun _ hq => by cases hq) (fun _ hq => by cases hq) (fun _ hq => by cases hq) (fun _ hq => by cases hq) (fun _ hq => by cases hq) (fun _ hq => by cases hq) (fun _ hq => by cases hq) (fun _ hq => by cases hq) (fun _ hq => by cases hq) (fun _ hq => by cases hq) (fun _ hq => ?_) (fun _ hq => by cases hq) (fun _ hq => by cases hq) (fun _ hq => by cases hq))
                                                cases hq
                                                have h50 := sumE_l h49
                                                refine rn_iconst (pc := 883) (v := 0) dL_law_883 (by decide) ?_
                                                cases h50
                                                exact rn_zret (pc := 884) (by decide) rfl dL_law_884
                                              · have h51 := sumE_r h49
                                                rcases r362 with r363 | r364
                                                · refine rn_sub [3, 2, 1, 0] rfl (lL_law_18 hr316 (fun _ hq => by cases hq) (fun _ hq => by cases hq) (fun _ hq => by cases hq) (fun _ hq => by cases hq) (fun _ hq => by cases hq) (fun _ hq => by cases hq) (fun _ hq => by cases hq) (fun _ hq => by cases hq) (fun _ hq => by cases hq) (fun _ hq => by cases hq) (fun _ hq => by cases hq) (fun _ hq => by cases hq) (fun _ hq => by cases hq) (fun _ hq => by cases hq) (fun _ hq => by cases hq) (fun _ hq => by cases hq) (fun _ hq => by cases hq) (fun _ hq => by cases hq) (fun _ hq => by cases hq) (fun _ hq => by cases hq) (fun _ hq => by cases hq) (fun _ hq => by cases hq) (fun _ hq => by cases hq) (fun _ hq => ?_) (fun _ hq => by cases hq) (fun _ hq => by cases hq))
                                                  cases hq
                                                  have h52 := sumE_l h51
                                                  refine rn_iconst (pc := 906) (v := 0) dL_law_906 (by decide) ?_
                                                  cases h52
                                                  exact rn_zret (pc := 907) (by decide) rfl dL_law_907
                                                · have h53 := sumE_r h51
                                                  rcases r364 with r365 | r366
                                                  · refine rn_sub [3, 2, 1, 0] rfl (lL_law_18 hr316 (fun _ hq => by cases hq) (fun _ hq => by cases hq) (fun _ hq => by cases hq) (fun _ hq => by cases hq) (fun _ hq => by cases hq) (fun _ hq => by cases hq) (fun _ hq => by cases hq) (fun _ hq => by cases hq) (fun _ hq => by cases hq) (fun _ hq => by cases hq) (fun _ hq => by cases hq) (fun _ hq => by cases hq) (fun _ hq => by cases hq) (fun _ hq => by cases hq) (fun _ hq => by cases hq) (fun _ hq => by cases hq) (fun _ hq => by cases hq) (fun _ hq => by cases hq) (fun _ hq => by cases hq) (fun _ hq => by cases hq) (fun _ hq => by cases hq) (fun _ hq => by cases hq) (fun _ hq => by cases hq) (fun _ hq => by cases hq) (fun _ hq => ?_) (fun _ hq => by cases hq))
                                                    cases hq
                                                    have h54 := sumE_l h53
                                                    refine rn_iconst (pc := 939) (v := 0) dL_law_939 (by decide) ?_
                                                    cases h54
                                                    exact rn_zret (pc := 940) (by decide) rfl dL_law_940
                                                  · refine rn_sub [3, 2, 1, 0] rfl (lL_law_18 hr316 (fun _ hq => by cases hq) (fun _ hq => by cases hq) (fun _ hq => by cases hq) (fun _ hq => by cases hq) (fun _ hq => by cases hq) (fun _ hq => by cases hq) (fun _ hq => by cases hq) (fun _ hq => by cases hq) (fun _ hq => by cases hq) (fun _ hq => by cases hq) (fun _ hq => by cases hq) (fun _ hq => by cases hq) (fun _ hq => by cases hq) (fun _ hq => by cases hq) (fun _ hq => by cases hq) (fun _ hq => by cases hq) (fun _ hq => by cases hq) (fun _ hq => by cases hq) (fun _ hq => by cases hq) (fun _ hq => by cases hq) (fun _ hq => by cases hq) (fun _ hq => by cases hq) (fun _ hq => by cases hq) (fun _ hq => by cases hq) (fun _ hq => by cases hq) (fun _ hq => ?_))
                                                    cases hq
                                                    have h55 := sumE_r h53
                                                    refine rn_iconst (pc := 962) (v := 0) dL_law_962 (by decide) ?_
                                                    cases h55
                                                    exact rn_zret (pc := 963) (by decide) rfl dL_law_963

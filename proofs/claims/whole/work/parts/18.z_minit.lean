abbrev iX12_init : MI := (yX12_init, cX12_init, 1, (Option.none : Option FieldType))
def fX12_init (t0 : Nat) (u : Mem) : Option (Mem) :=
  (pfI u (some t0) 12 2 (-1 : Int32)).bind fun u1 =>
  (pfI u1 (some t0) 12 3 (-1 : Int32)).bind fun u2 =>
  (pfI u2 (some t0) 12 4 (1 : Int32)).bind fun u3 =>
  bnd2 (nwc u3 20 11) fun a4 u5 =>
  (asI u5 (some a4) 20 (0 : Int32) (100 : Int32)).bind fun u6 =>
  (asI u6 (some a4) 20 (1 : Int32) (81 : Int32)).bind fun u7 =>
  (asI u7 (some a4) 20 (2 : Int32) (64 : Int32)).bind fun u8 =>
  (asI u8 (some a4) 20 (3 : Int32) (49 : Int32)).bind fun u9 =>
  (asI u9 (some a4) 20 (4 : Int32) (36 : Int32)).bind fun u10 =>
  (asI u10 (some a4) 20 (5 : Int32) (25 : Int32)).bind fun u11 =>
  (asI u11 (some a4) 20 (6 : Int32) (16 : Int32)).bind fun u12 =>
  (asI u12 (some a4) 20 (7 : Int32) (9 : Int32)).bind fun u13 =>
  (asI u13 (some a4) 20 (8 : Int32) (4 : Int32)).bind fun u14 =>
  (asI u14 (some a4) 20 (9 : Int32) (1 : Int32)).bind fun u15 =>
  (asI u15 (some a4) 20 (10 : Int32) (0 : Int32)).bind fun u16 =>
  (pfR u16 (some t0) 12 10 (some a4)).bind fun u17 =>
  bnd2 (nwc u17 20 11) fun a18 u19 =>
  (asI u19 (some a18) 20 (0 : Int32) (0 : Int32)).bind fun u20 =>
  (asI u20 (some a18) 20 (1 : Int32) (1 : Int32)).bind fun u21 =>
  (asI u21 (some a18) 20 (2 : Int32) (4 : Int32)).bind fun u22 =>
  (asI u22 (some a18) 20 (3 : Int32) (9 : Int32)).bind fun u23 =>
  (asI u23 (some a18) 20 (4 : Int32) (16 : Int32)).bind fun u24 =>
  (asI u24 (some a18) 20 (5 : Int32) (25 : Int32)).bind fun u25 =>
  (asI u25 (some a18) 20 (6 : Int32) (36 : Int32)).bind fun u26 =>
  (asI u26 (some a18) 20 (7 : Int32) (49 : Int32)).bind fun u27 =>
  (asI u27 (some a18) 20 (8 : Int32) (64 : Int32)).bind fun u28 =>
  (asI u28 (some a18) 20 (9 : Int32) (81 : Int32)).bind fun u29 =>
  (asI u29 (some a18) 20 (10 : Int32) (100 : Int32)).bind fun u30 =>
  (pfR u30 (some t0) 12 11 (some a18)).bind fun u31 =>
  bnd2 (nwc u31 20 11) fun a32 u33 =>
  (pfR u33 (some t0) 12 12 (some a32)).bind fun u34 =>
  bnd2 (nwc u34 20 11) fun a35 u36 =>
  (pfR u36 (some t0) 12 13 (some a35)).bind fun u37 =>
  bnd2 (nwc u37 11 6) fun a38 u39 =>
  (fX11_init a38 u39).bind fun u40 =>
  (pfR u40 (some t0) 12 14 (some a38)).bind fun u41 =>
  bnd2 (nwc u41 21 500) fun a42 u43 =>
  (pfR u43 (some t0) 12 15 (some a42)).bind fun u44 =>
  (pfI u44 (some t0) 12 23 (-1 : Int32)).bind fun u45 =>
  bnd2 (nwc u45 22 6) fun a46 u47 =>
  (pfR u47 (some t0) 12 24 (some a46)).bind fun u48 =>
  bnd2 (nwc u48 20 20) fun a49 u50 =>
  (pfR u50 (some t0) 12 28 (some a49)).bind fun u51 =>
  bnd2 (nwc u51 20 20) fun a52 u53 =>
  (pfR u53 (some t0) 12 29 (some a52)).bind fun u54 =>
  bnd2 (nwc u54 20 20) fun a55 u56 =>
  (pfR u56 (some t0) 12 30 (some a55)).bind fun u57 =>
  bnd2 (nwc u57 20 20) fun a58 u59 =>
  (pfR u59 (some t0) 12 31 (some a58)).bind fun u60 =>
  bnd2 (nwc u60 20 300) fun a61 u62 =>
  (pfR u62 (some t0) 12 32 (some a61)).bind fun u63 =>
  bnd2 (nwc u63 20 300) fun a64 u65 =>
  (pfR u65 (some t0) 12 33 (some a64)).bind fun u66 =>
  bnd2 (nwc u66 20 300) fun a67 u68 =>
  (pfR u68 (some t0) 12 34 (some a67)).bind fun u69 =>
  bnd2 (nwc u69 20 300) fun a70 u71 =>
  (pfR u71 (some t0) 12 35 (some a70)).bind fun u72 =>
  bnd2 (nwc u72 20 30) fun a73 u74 =>
  (pfR u74 (some t0) 12 36 (some a73)).bind fun u75 =>
  bnd2 (nwc u75 20 30) fun a76 u77 =>
  (pfR u77 (some t0) 12 37 (some a76)).bind fun u78 =>
  bnd2 (nwc u78 20 30) fun a79 u80 =>
  (pfR u80 (some t0) 12 38 (some a79)).bind fun u81 =>
  bnd2 (nwc u81 20 24000) fun a82 u83 =>
  (pfR u83 (some t0) 12 39 (some a82)).bind fun u84 =>
  bnd2 (nwc u84 20 400) fun a85 u86 =>
  (pfR u86 (some t0) 12 40 (some a85)).bind fun u87 =>
  bnd2 (nwc u87 20 400) fun a88 u89 =>
  (pfR u89 (some t0) 12 41 (some a88)).bind fun u90 =>
  bnd2 (nwc u90 20 400) fun a91 u92 =>
  (pfR u92 (some t0) 12 42 (some a91)).bind fun u93 =>
  bnd2 (nwc u93 22 400) fun a94 u95 =>
  (pfR u95 (some t0) 12 43 (some a94)).bind fun u96 =>
  bnd2 (nwc u96 22 6000) fun a97 u98 =>
  (pfR u98 (some t0) 12 44 (some a97)).bind fun u99 =>
  bnd2 (nwc u99 20 20) fun a100 u101 =>
  (pfR u101 (some t0) 12 47 (some a100)).bind fun u102 =>
  bnd2 (nwc u102 20 20) fun a103 u104 =>
  (pfR u104 (some t0) 12 48 (some a103)).bind fun u105 =>
  bnd2 (nwc u105 20 11) fun a106 u107 =>
  (pfR u107 (some t0) 12 49 (some a106)).bind fun u108 =>
  bnd2 (nwc u108 23 21) fun a109 u110 =>
  (pfR u110 (some t0) 12 50 (some a109)).bind fun u111 =>
  bnd2 (nwc u111 20 20) fun a112 u113 =>
  (asI u113 (some a112) 20 (0 : Int32) (-1 : Int32)).bind fun u114 =>
  (asI u114 (some a112) 20 (1 : Int32) (-1 : Int32)).bind fun u115 =>
  (asI u115 (some a112) 20 (2 : Int32) (-1 : Int32)).bind fun u116 =>
  (asI u116 (some a112) 20 (3 : Int32) (-1 : Int32)).bind fun u117 =>
  (asI u117 (some a112) 20 (4 : Int32) (-1 : Int32)).bind fun u118 =>
  (asI u118 (some a112) 20 (5 : Int32) (-1 : Int32)).bind fun u119 =>
  (asI u119 (some a112) 20 (6 : Int32) (-1 : Int32)).bind fun u120 =>
  (asI u120 (some a112) 20 (7 : Int32) (-1 : Int32)).bind fun u121 =>
  (asI u121 (some a112) 20 (8 : Int32) (-1 : Int32)).bind fun u122 =>
  (asI u122 (some a112) 20 (9 : Int32) (-1 : Int32)).bind fun u123 =>
  (asI u123 (some a112) 20 (10 : Int32) (-1 : Int32)).bind fun u124 =>
  (asI u124 (some a112) 20 (11 : Int32) (-1 : Int32)).bind fun u125 =>
  (asI u125 (some a112) 20 (12 : Int32) (-1 : Int32)).bind fun u126 =>
  (asI u126 (some a112) 20 (13 : Int32) (-1 : Int32)).bind fun u127 =>
  (asI u127 (some a112) 20 (14 : Int32) (-1 : Int32)).bind fun u128 =>
  (asI u128 (some a112) 20 (15 : Int32) (-1 : Int32)).bind fun u129 =>
  (asI u129 (some a112) 20 (16 : Int32) (-1 : Int32)).bind fun u130 =>
  (asI u130 (some a112) 20 (17 : Int32) (-1 : Int32)).bind fun u131 =>
  (asI u131 (some a112) 20 (18 : Int32) (-1 : Int32)).bind fun u132 =>
  (asI u132 (some a112) 20 (19 : Int32) (-1 : Int32)).bind fun u133 =>
  (pfR u133 (some t0) 12 51 (some a112)).bind fun u134 =>
  bnd2 (nwc u134 20 20) fun a135 u136 =>
  (pfR u136 (some t0) 12 52 (some a135)).bind fun u137 =>
  bnd2 (nwc u137 20 20) fun a138 u139 =>
  (pfR u139 (some t0) 12 53 (some a138)).bind fun u140 =>
  bnd2 (nwc u140 20 20) fun a141 u142 =>
  (pfR u142 (some t0) 12 54 (some a141)).bind fun u143 =>
  some u143
theorem tX12_init {l : Launch} {G : Gt} {d : Nat} {t0 : Nat} {u : Mem} {y : Mem} (h : fX12_init t0 u = some y) : Rn l G iX12_init (d + 4) 0 [(0, rv (some t0))] [] u (.returned none) y := by
  unfold fX12_init at h
  refine rn_aload_n (pc := 0) 0 dX12_init_0 rfl rfl ?_
  refine rn_objInit (pc := 1) (by omega) tw_942 tw_97 tw_98 (by decide) dX12_init_1 ?_
  refine rn_aload_n (pc := 4) 0 dX12_init_4 rfl rfl ?_
  refine rn_iconst (pc := 5) (v := -1) dX12_init_5 (by decide) ?_
  obtain ⟨u1, hu1, h1⟩ := bnd_some h
  refine rn_putI (pc := 6) (k := 2) okX12 (by decide) tw_995 (Or.inl rfl) (Or.inl rfl) dX12_init_6 hu1 ?_
  refine rn_aload_n (pc := 9) 0 dX12_init_9 rfl rfl ?_
  refine rn_iconst (pc := 10) (v := -1) dX12_init_10 (by decide) ?_
  obtain ⟨u2, hu2, h2⟩ := bnd_some h1
  refine rn_putI (pc := 11) (k := 3) okX12 (by decide) tw_996 (Or.inl rfl) (Or.inl rfl) dX12_init_11 hu2 ?_
  refine rn_aload_n (pc := 14) 0 dX12_init_14 rfl rfl ?_
  refine rn_iconst (pc := 15) (v := 1) dX12_init_15 (by decide) ?_
  obtain ⟨u3, hu3, h3⟩ := bnd_some h2
  refine rn_putI (pc := 16) (k := 4) okX12 (by decide) tw_997 (Or.inl rfl) (Or.inl rfl) dX12_init_16 hu3 ?_
  refine rn_aload_n (pc := 19) 0 dX12_init_19 rfl rfl ?_
  refine rn_bipush (pc := 20) (v := 11) dX12_init_20 (by decide) ?_
  obtain ⟨a4, u5, ha4, h4⟩ := bnd2_some h3
  refine rn_newa (pc := 22) (N := 11) (atype := .int) (by decide) rfl tw_172 (by decide) (by decide) (by decide) dX12_init_22 ha4 ?_
  refine rn_dup (pc := 24) dX12_init_24 (rv_cat _) ?_
  refine rn_iconst (pc := 25) (v := 0) dX12_init_25 (by decide) ?_
  refine rn_bipush (pc := 26) (v := 100) dX12_init_26 (by decide) ?_
  obtain ⟨u6, hu6, h5⟩ := bnd_some h4
  refine rn_iast (pc := 28) dX12_init_28 hu6 ?_
  refine rn_dup (pc := 29) dX12_init_29 (rv_cat _) ?_
  refine rn_iconst (pc := 30) (v := 1) dX12_init_30 (by decide) ?_
  refine rn_bipush (pc := 31) (v := 81) dX12_init_31 (by decide) ?_
  obtain ⟨u7, hu7, h6⟩ := bnd_some h5
  refine rn_iast (pc := 33) dX12_init_33 hu7 ?_
  refine rn_dup (pc := 34) dX12_init_34 (rv_cat _) ?_
  refine rn_iconst (pc := 35) (v := 2) dX12_init_35 (by decide) ?_
  refine rn_bipush (pc := 36) (v := 64) dX12_init_36 (by decide) ?_
  obtain ⟨u8, hu8, h7⟩ := bnd_some h6
  refine rn_iast (pc := 38) dX12_init_38 hu8 ?_
  refine rn_dup (pc := 39) dX12_init_39 (rv_cat _) ?_
  refine rn_iconst (pc := 40) (v := 3) dX12_init_40 (by decide) ?_
  refine rn_bipush (pc := 41) (v := 49) dX12_init_41 (by decide) ?_
  obtain ⟨u9, hu9, h8⟩ := bnd_some h7
  refine rn_iast (pc := 43) dX12_init_43 hu9 ?_
  refine rn_dup (pc := 44) dX12_init_44 (rv_cat _) ?_
  refine rn_iconst (pc := 45) (v := 4) dX12_init_45 (by decide) ?_
  refine rn_bipush (pc := 46) (v := 36) dX12_init_46 (by decide) ?_
  obtain ⟨u10, hu10, h9⟩ := bnd_some h8
  refine rn_iast (pc := 48) dX12_init_48 hu10 ?_
  refine rn_dup (pc := 49) dX12_init_49 (rv_cat _) ?_
  refine rn_iconst (pc := 50) (v := 5) dX12_init_50 (by decide) ?_
  refine rn_bipush (pc := 51) (v := 25) dX12_init_51 (by decide) ?_
  obtain ⟨u11, hu11, h10⟩ := bnd_some h9
  refine rn_iast (pc := 53) dX12_init_53 hu11 ?_
  refine rn_dup (pc := 54) dX12_init_54 (rv_cat _) ?_
  refine rn_bipush (pc := 55) (v := 6) dX12_init_55 (by decide) ?_
  refine rn_bipush (pc := 57) (v := 16) dX12_init_57 (by decide) ?_
  obtain ⟨u12, hu12, h11⟩ := bnd_some h10
  refine rn_iast (pc := 59) dX12_init_59 hu12 ?_
  refine rn_dup (pc := 60) dX12_init_60 (rv_cat _) ?_
  refine rn_bipush (pc := 61) (v := 7) dX12_init_61 (by decide) ?_
  refine rn_bipush (pc := 63) (v := 9) dX12_init_63 (by decide) ?_
  obtain ⟨u13, hu13, h12⟩ := bnd_some h11
  refine rn_iast (pc := 65) dX12_init_65 hu13 ?_
  refine rn_dup (pc := 66) dX12_init_66 (rv_cat _) ?_
  refine rn_bipush (pc := 67) (v := 8) dX12_init_67 (by decide) ?_
  refine rn_iconst (pc := 69) (v := 4) dX12_init_69 (by decide) ?_
  obtain ⟨u14, hu14, h13⟩ := bnd_some h12
  refine rn_iast (pc := 70) dX12_init_70 hu14 ?_
  refine rn_dup (pc := 71) dX12_init_71 (rv_cat _) ?_
  refine rn_bipush (pc := 72) (v := 9) dX12_init_72 (by decide) ?_
  refine rn_iconst (pc := 74) (v := 1) dX12_init_74 (by decide) ?_
  obtain ⟨u15, hu15, h14⟩ := bnd_some h13
  refine rn_iast (pc := 75) dX12_init_75 hu15 ?_
  refine rn_dup (pc := 76) dX12_init_76 (rv_cat _) ?_
  refine rn_bipush (pc := 77) (v := 10) dX12_init_77 (by decide) ?_
  refine rn_iconst (pc := 79) (v := 0) dX12_init_79 (by decide) ?_
  obtain ⟨u16, hu16, h15⟩ := bnd_some h14
  refine rn_iast (pc := 80) dX12_init_80 hu16 ?_
  obtain ⟨u17, hu17, h16⟩ := bnd_some h15
  refine rn_putR (pc := 81) (k := 10) okX12 (by decide) tw_1003 (Or.inr ⟨rfl, rfl, rfl⟩) rfl dX12_init_81 hu17 ?_
  refine rn_aload_n (pc := 84) 0 dX12_init_84 rfl rfl ?_
  refine rn_bipush (pc := 85) (v := 11) dX12_init_85 (by decide) ?_
  obtain ⟨a18, u19, ha18, h17⟩ := bnd2_some h16
  refine rn_newa (pc := 87) (N := 11) (atype := .int) (by decide) rfl tw_172 (by decide) (by decide) (by decide) dX12_init_87 ha18 ?_
  refine rn_dup (pc := 89) dX12_init_89 (rv_cat _) ?_
  refine rn_iconst (pc := 90) (v := 0) dX12_init_90 (by decide) ?_
  refine rn_iconst (pc := 91) (v := 0) dX12_init_91 (by decide) ?_
  obtain ⟨u20, hu20, h18⟩ := bnd_some h17
  refine rn_iast (pc := 92) dX12_init_92 hu20 ?_
  refine rn_dup (pc := 93) dX12_init_93 (rv_cat _) ?_
  refine rn_iconst (pc := 94) (v := 1) dX12_init_94 (by decide) ?_
  refine rn_iconst (pc := 95) (v := 1) dX12_init_95 (by decide) ?_
  obtain ⟨u21, hu21, h19⟩ := bnd_some h18
  refine rn_iast (pc := 96) dX12_init_96 hu21 ?_
  refine rn_dup (pc := 97) dX12_init_97 (rv_cat _) ?_
  refine rn_iconst (pc := 98) (v := 2) dX12_init_98 (by decide) ?_
  refine rn_iconst (pc := 99) (v := 4) dX12_init_99 (by decide) ?_
  obtain ⟨u22, hu22, h20⟩ := bnd_some h19
  refine rn_iast (pc := 100) dX12_init_100 hu22 ?_
  refine rn_dup (pc := 101) dX12_init_101 (rv_cat _) ?_
  refine rn_iconst (pc := 102) (v := 3) dX12_init_102 (by decide) ?_
  refine rn_bipush (pc := 103) (v := 9) dX12_init_103 (by decide) ?_
  obtain ⟨u23, hu23, h21⟩ := bnd_some h20
  refine rn_iast (pc := 105) dX12_init_105 hu23 ?_
  refine rn_dup (pc := 106) dX12_init_106 (rv_cat _) ?_
  refine rn_iconst (pc := 107) (v := 4) dX12_init_107 (by decide) ?_
  refine rn_bipush (pc := 108) (v := 16) dX12_init_108 (by decide) ?_
  obtain ⟨u24, hu24, h22⟩ := bnd_some h21
  refine rn_iast (pc := 110) dX12_init_110 hu24 ?_
  refine rn_dup (pc := 111) dX12_init_111 (rv_cat _) ?_
  refine rn_iconst (pc := 112) (v := 5) dX12_init_112 (by decide) ?_
  refine rn_bipush (pc := 113) (v := 25) dX12_init_113 (by decide) ?_
  obtain ⟨u25, hu25, h23⟩ := bnd_some h22
  refine rn_iast (pc := 115) dX12_init_115 hu25 ?_
  refine rn_dup (pc := 116) dX12_init_116 (rv_cat _) ?_
  refine rn_bipush (pc := 117) (v := 6) dX12_init_117 (by decide) ?_
  refine rn_bipush (pc := 119) (v := 36) dX12_init_119 (by decide) ?_
  obtain ⟨u26, hu26, h24⟩ := bnd_some h23
  refine rn_iast (pc := 121) dX12_init_121 hu26 ?_
  refine rn_dup (pc := 122) dX12_init_122 (rv_cat _) ?_
  refine rn_bipush (pc := 123) (v := 7) dX12_init_123 (by decide) ?_
  refine rn_bipush (pc := 125) (v := 49) dX12_init_125 (by decide) ?_
  obtain ⟨u27, hu27, h25⟩ := bnd_some h24
  refine rn_iast (pc := 127) dX12_init_127 hu27 ?_
  refine rn_dup (pc := 128) dX12_init_128 (rv_cat _) ?_
  refine rn_bipush (pc := 129) (v := 8) dX12_init_129 (by decide) ?_
  refine rn_bipush (pc := 131) (v := 64) dX12_init_131 (by decide) ?_
  obtain ⟨u28, hu28, h26⟩ := bnd_some h25
  refine rn_iast (pc := 133) dX12_init_133 hu28 ?_
  refine rn_dup (pc := 134) dX12_init_134 (rv_cat _) ?_
  refine rn_bipush (pc := 135) (v := 9) dX12_init_135 (by decide) ?_
  refine rn_bipush (pc := 137) (v := 81) dX12_init_137 (by decide) ?_
  obtain ⟨u29, hu29, h27⟩ := bnd_some h26
  refine rn_iast (pc := 139) dX12_init_139 hu29 ?_
  refine rn_dup (pc := 140) dX12_init_140 (rv_cat _) ?_
  refine rn_bipush (pc := 141) (v := 10) dX12_init_141 (by decide) ?_
  refine rn_bipush (pc := 143) (v := 100) dX12_init_143 (by decide) ?_
  obtain ⟨u30, hu30, h28⟩ := bnd_some h27
  refine rn_iast (pc := 145) dX12_init_145 hu30 ?_
  obtain ⟨u31, hu31, h29⟩ := bnd_some h28
  refine rn_putR (pc := 146) (k := 11) okX12 (by decide) tw_1004 (Or.inr ⟨rfl, rfl, rfl⟩) rfl dX12_init_146 hu31 ?_
  refine rn_aload_n (pc := 149) 0 dX12_init_149 rfl rfl ?_
  refine rn_bipush (pc := 150) (v := 11) dX12_init_150 (by decide) ?_
  obtain ⟨a32, u33, ha32, h30⟩ := bnd2_some h29
  refine rn_newa (pc := 152) (N := 11) (atype := .int) (by decide) rfl tw_172 (by decide) (by decide) (by decide) dX12_init_152 ha32 ?_
  obtain ⟨u34, hu34, h31⟩ := bnd_some h30
  refine rn_putR (pc := 154) (k := 12) okX12 (by decide) tw_1005 (Or.inr ⟨rfl, rfl, rfl⟩) rfl dX12_init_154 hu34 ?_
  refine rn_aload_n (pc := 157) 0 dX12_init_157 rfl rfl ?_
  refine rn_bipush (pc := 158) (v := 11) dX12_init_158 (by decide) ?_
  obtain ⟨a35, u36, ha35, h32⟩ := bnd2_some h31
  refine rn_newa (pc := 160) (N := 11) (atype := .int) (by decide) rfl tw_172 (by decide) (by decide) (by decide) dX12_init_160 ha35 ?_
  obtain ⟨u37, hu37, h33⟩ := bnd_some h32
  refine rn_putR (pc := 162) (k := 13) okX12 (by decide) tw_1006 (Or.inr ⟨rfl, rfl, rfl⟩) rfl dX12_init_162 hu37 ?_
  refine rn_aload_n (pc := 165) 0 dX12_init_165 rfl rfl ?_
  obtain ⟨a38, u39, ha38, h34⟩ := bnd2_some h33
  refine rn_new (pc := 166) okX11 (by decide +kernel) tw_943 tw_944 tw_82 dX12_init_166 ha38 ?_
  refine rn_dup (pc := 169) dX12_init_169 (rv_cat _) ?_
  obtain ⟨u40, hu40, h35⟩ := bnd_some h34
  refine rn_callI (pc := 170) (n := 0) (As := []) (rest := [rv (some a38), rv (some t0)]) (eX11_init (d := d + 0) hu40) (by omega) rfl tw_974 tw_82 tw_972 tw_973 rfl (by decide +kernel) rfl (Nat.le_of_ble_eq_true rfl) dX12_init_170 rfl ?_
  obtain ⟨u41, hu41, h36⟩ := bnd_some h35
  refine rn_putR (pc := 173) (k := 14) okX12 (by decide) tw_1007 (Or.inr ⟨rfl, rfl, rfl⟩) rfl dX12_init_173 hu41 ?_
  refine rn_aload_n (pc := 176) 0 dX12_init_176 rfl rfl ?_
  refine rn_sipush (pc := 177) (v := 500) dX12_init_177 (by decide) ?_
  obtain ⟨a42, u43, ha42, h37⟩ := bnd2_some h36
  refine rn_newa (pc := 180) (N := 500) (atype := .byte) (by decide) rfl tw_114 (by decide) (by decide) (by decide) dX12_init_180 ha42 ?_
  obtain ⟨u44, hu44, h38⟩ := bnd_some h37
  refine rn_putR (pc := 182) (k := 15) okX12 (by decide) tw_1008 (Or.inr ⟨rfl, rfl, rfl⟩) rfl dX12_init_182 hu44 ?_
  refine rn_aload_n (pc := 185) 0 dX12_init_185 rfl rfl ?_
  refine rn_iconst (pc := 186) (v := -1) dX12_init_186 (by decide) ?_
  obtain ⟨u45, hu45, h39⟩ := bnd_some h38
  refine rn_putI (pc := 187) (k := 23) okX12 (by decide) tw_1016 (Or.inl rfl) (Or.inl rfl) dX12_init_187 hu45 ?_
  refine rn_aload_n (pc := 190) 0 dX12_init_190 rfl rfl ?_
  refine rn_bipush (pc := 191) (v := 6) dX12_init_191 (by decide) ?_
  obtain ⟨a46, u47, ha46, h40⟩ := bnd2_some h39
  refine rn_newa (pc := 193) (N := 6) (atype := .boolean) (by decide) rfl tw_1162 (by decide) (by decide) (by decide) dX12_init_193 ha46 ?_
  obtain ⟨u48, hu48, h41⟩ := bnd_some h40
  refine rn_putR (pc := 195) (k := 24) okX12 (by decide) tw_1017 (Or.inr ⟨rfl, rfl, rfl⟩) rfl dX12_init_195 hu48 ?_
  refine rn_aload_n (pc := 198) 0 dX12_init_198 rfl rfl ?_
  refine rn_bipush (pc := 199) (v := 20) dX12_init_199 (by decide) ?_
  obtain ⟨a49, u50, ha49, h42⟩ := bnd2_some h41
  refine rn_newa (pc := 201) (N := 20) (atype := .int) (by decide) rfl tw_172 (by decide) (by decide) (by decide) dX12_init_201 ha49 ?_
  obtain ⟨u51, hu51, h43⟩ := bnd_some h42
  refine rn_putR (pc := 203) (k := 28) okX12 (by decide) tw_1021 (Or.inr ⟨rfl, rfl, rfl⟩) rfl dX12_init_203 hu51 ?_
  refine rn_aload_n (pc := 206) 0 dX12_init_206 rfl rfl ?_
  refine rn_bipush (pc := 207) (v := 20) dX12_init_207 (by decide) ?_
  obtain ⟨a52, u53, ha52, h44⟩ := bnd2_some h43
  refine rn_newa (pc := 209) (N := 20) (atype := .int) (by decide) rfl tw_172 (by decide) (by decide) (by decide) dX12_init_209 ha52 ?_
  obtain ⟨u54, hu54, h45⟩ := bnd_some h44
  refine rn_putR (pc := 211) (k := 29) okX12 (by decide) tw_1022 (Or.inr ⟨rfl, rfl, rfl⟩) rfl dX12_init_211 hu54 ?_
  refine rn_aload_n (pc := 214) 0 dX12_init_214 rfl rfl ?_
  refine rn_bipush (pc := 215) (v := 20) dX12_init_215 (by decide) ?_
  obtain ⟨a55, u56, ha55, h46⟩ := bnd2_some h45
  refine rn_newa (pc := 217) (N := 20) (atype := .int) (by decide) rfl tw_172 (by decide) (by decide) (by decide) dX12_init_217 ha55 ?_
  obtain ⟨u57, hu57, h47⟩ := bnd_some h46
  refine rn_putR (pc := 219) (k := 30) okX12 (by decide) tw_1023 (Or.inr ⟨rfl, rfl, rfl⟩) rfl dX12_init_219 hu57 ?_
  refine rn_aload_n (pc := 222) 0 dX12_init_222 rfl rfl ?_
  refine rn_bipush (pc := 223) (v := 20) dX12_init_223 (by decide) ?_
  obtain ⟨a58, u59, ha58, h48⟩ := bnd2_some h47
  refine rn_newa (pc := 225) (N := 20) (atype := .int) (by decide) rfl tw_172 (by decide) (by decide) (by decide) dX12_init_225 ha58 ?_
  obtain ⟨u60, hu60, h49⟩ := bnd_some h48
  refine rn_putR (pc := 227) (k := 31) okX12 (by decide) tw_1024 (Or.inr ⟨rfl, rfl, rfl⟩) rfl dX12_init_227 hu60 ?_
  refine rn_aload_n (pc := 230) 0 dX12_init_230 rfl rfl ?_
  refine rn_sipush (pc := 231) (v := 300) dX12_init_231 (by decide) ?_
  obtain ⟨a61, u62, ha61, h50⟩ := bnd2_some h49
  refine rn_newa (pc := 234) (N := 300) (atype := .int) (by decide) rfl tw_172 (by decide) (by decide) (by decide) dX12_init_234 ha61 ?_
  obtain ⟨u63, hu63, h51⟩ := bnd_some h50
  refine rn_putR (pc := 236) (k := 32) okX12 (by decide) tw_1025 (Or.inr ⟨rfl, rfl, rfl⟩) rfl dX12_init_236 hu63 ?_
  refine rn_aload_n (pc := 239) 0 dX12_init_239 rfl rfl ?_
  refine rn_sipush (pc := 240) (v := 300) dX12_init_240 (by decide) ?_
  obtain ⟨a64, u65, ha64, h52⟩ := bnd2_some h51
  refine rn_newa (pc := 243) (N := 300) (atype := .int) (by decide) rfl tw_172 (by decide) (by decide) (by decide) dX12_init_243 ha64 ?_
  obtain ⟨u66, hu66, h53⟩ := bnd_some h52
  refine rn_putR (pc := 245) (k := 33) okX12 (by decide) tw_1026 (Or.inr ⟨rfl, rfl, rfl⟩) rfl dX12_init_245 hu66 ?_
  refine rn_aload_n (pc := 248) 0 dX12_init_248 rfl rfl ?_
  refine rn_sipush (pc := 249) (v := 300) dX12_init_249 (by decide) ?_
  obtain ⟨a67, u68, ha67, h54⟩ := bnd2_some h53
  refine rn_newa (pc := 252) (N := 300) (atype := .int) (by decide) rfl tw_172 (by decide) (by decide) (by decide) dX12_init_252 ha67 ?_
  obtain ⟨u69, hu69, h55⟩ := bnd_some h54
  refine rn_putR (pc := 254) (k := 34) okX12 (by decide) tw_1027 (Or.inr ⟨rfl, rfl, rfl⟩) rfl dX12_init_254 hu69 ?_
  refine rn_aload_n (pc := 257) 0 dX12_init_257 rfl rfl ?_
  refine rn_sipush (pc := 258) (v := 300) dX12_init_258 (by decide) ?_
  obtain ⟨a70, u71, ha70, h56⟩ := bnd2_some h55
  refine rn_newa (pc := 261) (N := 300) (atype := .int) (by decide) rfl tw_172 (by decide) (by decide) (by decide) dX12_init_261 ha70 ?_
  obtain ⟨u72, hu72, h57⟩ := bnd_some h56
  refine rn_putR (pc := 263) (k := 35) okX12 (by decide) tw_1028 (Or.inr ⟨rfl, rfl, rfl⟩) rfl dX12_init_263 hu72 ?_
  refine rn_aload_n (pc := 266) 0 dX12_init_266 rfl rfl ?_
  refine rn_bipush (pc := 267) (v := 30) dX12_init_267 (by decide) ?_
  obtain ⟨a73, u74, ha73, h58⟩ := bnd2_some h57
  refine rn_newa (pc := 269) (N := 30) (atype := .int) (by decide) rfl tw_172 (by decide) (by decide) (by decide) dX12_init_269 ha73 ?_
  obtain ⟨u75, hu75, h59⟩ := bnd_some h58
  refine rn_putR (pc := 271) (k := 36) okX12 (by decide) tw_1029 (Or.inr ⟨rfl, rfl, rfl⟩) rfl dX12_init_271 hu75 ?_
  refine rn_aload_n (pc := 274) 0 dX12_init_274 rfl rfl ?_
  refine rn_bipush (pc := 275) (v := 30) dX12_init_275 (by decide) ?_
  obtain ⟨a76, u77, ha76, h60⟩ := bnd2_some h59
  refine rn_newa (pc := 277) (N := 30) (atype := .int) (by decide) rfl tw_172 (by decide) (by decide) (by decide) dX12_init_277 ha76 ?_
  obtain ⟨u78, hu78, h61⟩ := bnd_some h60
  refine rn_putR (pc := 279) (k := 37) okX12 (by decide) tw_1030 (Or.inr ⟨rfl, rfl, rfl⟩) rfl dX12_init_279 hu78 ?_
  refine rn_aload_n (pc := 282) 0 dX12_init_282 rfl rfl ?_
  refine rn_bipush (pc := 283) (v := 30) dX12_init_283 (by decide) ?_
  obtain ⟨a79, u80, ha79, h62⟩ := bnd2_some h61
  refine rn_newa (pc := 285) (N := 30) (atype := .int) (by decide) rfl tw_172 (by decide) (by decide) (by decide) dX12_init_285 ha79 ?_
  obtain ⟨u81, hu81, h63⟩ := bnd_some h62
  refine rn_putR (pc := 287) (k := 38) okX12 (by decide) tw_1031 (Or.inr ⟨rfl, rfl, rfl⟩) rfl dX12_init_287 hu81 ?_
  refine rn_aload_n (pc := 290) 0 dX12_init_290 rfl rfl ?_
  refine rn_sipush (pc := 291) (v := 24000) dX12_init_291 (by decide) ?_
  obtain ⟨a82, u83, ha82, h64⟩ := bnd2_some h63
  refine rn_newa (pc := 294) (N := 24000) (atype := .int) (by decide) rfl tw_172 (by decide) (by decide) (by decide) dX12_init_294 ha82 ?_
  obtain ⟨u84, hu84, h65⟩ := bnd_some h64
  refine rn_putR (pc := 296) (k := 39) okX12 (by decide) tw_1032 (Or.inr ⟨rfl, rfl, rfl⟩) rfl dX12_init_296 hu84 ?_
  refine rn_aload_n (pc := 299) 0 dX12_init_299 rfl rfl ?_
  refine rn_sipush (pc := 300) (v := 400) dX12_init_300 (by decide) ?_
  obtain ⟨a85, u86, ha85, h66⟩ := bnd2_some h65
  refine rn_newa (pc := 303) (N := 400) (atype := .int) (by decide) rfl tw_172 (by decide) (by decide) (by decide) dX12_init_303 ha85 ?_
  obtain ⟨u87, hu87, h67⟩ := bnd_some h66
  refine rn_putR (pc := 305) (k := 40) okX12 (by decide) tw_1033 (Or.inr ⟨rfl, rfl, rfl⟩) rfl dX12_init_305 hu87 ?_
  refine rn_aload_n (pc := 308) 0 dX12_init_308 rfl rfl ?_
  refine rn_sipush (pc := 309) (v := 400) dX12_init_309 (by decide) ?_
  obtain ⟨a88, u89, ha88, h68⟩ := bnd2_some h67
  refine rn_newa (pc := 312) (N := 400) (atype := .int) (by decide) rfl tw_172 (by decide) (by decide) (by decide) dX12_init_312 ha88 ?_
  obtain ⟨u90, hu90, h69⟩ := bnd_some h68
  refine rn_putR (pc := 314) (k := 41) okX12 (by decide) tw_1034 (Or.inr ⟨rfl, rfl, rfl⟩) rfl dX12_init_314 hu90 ?_
  refine rn_aload_n (pc := 317) 0 dX12_init_317 rfl rfl ?_
  refine rn_sipush (pc := 318) (v := 400) dX12_init_318 (by decide) ?_
  obtain ⟨a91, u92, ha91, h70⟩ := bnd2_some h69
  refine rn_newa (pc := 321) (N := 400) (atype := .int) (by decide) rfl tw_172 (by decide) (by decide) (by decide) dX12_init_321 ha91 ?_
  obtain ⟨u93, hu93, h71⟩ := bnd_some h70
  refine rn_putR (pc := 323) (k := 42) okX12 (by decide) tw_1035 (Or.inr ⟨rfl, rfl, rfl⟩) rfl dX12_init_323 hu93 ?_
  refine rn_aload_n (pc := 326) 0 dX12_init_326 rfl rfl ?_
  refine rn_sipush (pc := 327) (v := 400) dX12_init_327 (by decide) ?_
  obtain ⟨a94, u95, ha94, h72⟩ := bnd2_some h71
  refine rn_newa (pc := 330) (N := 400) (atype := .boolean) (by decide) rfl tw_1162 (by decide) (by decide) (by decide) dX12_init_330 ha94 ?_
  obtain ⟨u96, hu96, h73⟩ := bnd_some h72
  refine rn_putR (pc := 332) (k := 43) okX12 (by decide) tw_1036 (Or.inr ⟨rfl, rfl, rfl⟩) rfl dX12_init_332 hu96 ?_
  refine rn_aload_n (pc := 335) 0 dX12_init_335 rfl rfl ?_
  refine rn_sipush (pc := 336) (v := 6000) dX12_init_336 (by decide) ?_
  obtain ⟨a97, u98, ha97, h74⟩ := bnd2_some h73
  refine rn_newa (pc := 339) (N := 6000) (atype := .boolean) (by decide) rfl tw_1162 (by decide) (by decide) (by decide) dX12_init_339 ha97 ?_
  obtain ⟨u99, hu99, h75⟩ := bnd_some h74
  refine rn_putR (pc := 341) (k := 44) okX12 (by decide) tw_1037 (Or.inr ⟨rfl, rfl, rfl⟩) rfl dX12_init_341 hu99 ?_
  refine rn_aload_n (pc := 344) 0 dX12_init_344 rfl rfl ?_
  refine rn_bipush (pc := 345) (v := 20) dX12_init_345 (by decide) ?_
  obtain ⟨a100, u101, ha100, h76⟩ := bnd2_some h75
  refine rn_newa (pc := 347) (N := 20) (atype := .int) (by decide) rfl tw_172 (by decide) (by decide) (by decide) dX12_init_347 ha100 ?_
  obtain ⟨u102, hu102, h77⟩ := bnd_some h76
  refine rn_putR (pc := 349) (k := 47) okX12 (by decide) tw_1040 (Or.inr ⟨rfl, rfl, rfl⟩) rfl dX12_init_349 hu102 ?_
  refine rn_aload_n (pc := 352) 0 dX12_init_352 rfl rfl ?_
  refine rn_bipush (pc := 353) (v := 20) dX12_init_353 (by decide) ?_
  obtain ⟨a103, u104, ha103, h78⟩ := bnd2_some h77
  refine rn_newa (pc := 355) (N := 20) (atype := .int) (by decide) rfl tw_172 (by decide) (by decide) (by decide) dX12_init_355 ha103 ?_
  obtain ⟨u105, hu105, h79⟩ := bnd_some h78
  refine rn_putR (pc := 357) (k := 48) okX12 (by decide) tw_1041 (Or.inr ⟨rfl, rfl, rfl⟩) rfl dX12_init_357 hu105 ?_
  refine rn_aload_n (pc := 360) 0 dX12_init_360 rfl rfl ?_
  refine rn_bipush (pc := 361) (v := 11) dX12_init_361 (by decide) ?_
  obtain ⟨a106, u107, ha106, h80⟩ := bnd2_some h79
  refine rn_newa (pc := 363) (N := 11) (atype := .int) (by decide) rfl tw_172 (by decide) (by decide) (by decide) dX12_init_363 ha106 ?_
  obtain ⟨u108, hu108, h81⟩ := bnd_some h80
  refine rn_putR (pc := 365) (k := 49) okX12 (by decide) tw_1042 (Or.inr ⟨rfl, rfl, rfl⟩) rfl dX12_init_365 hu108 ?_
  refine rn_aload_n (pc := 368) 0 dX12_init_368 rfl rfl ?_
  refine rn_bipush (pc := 369) (v := 21) dX12_init_369 (by decide) ?_
  obtain ⟨a109, u110, ha109, h82⟩ := bnd2_some h81
  refine rn_newa (pc := 371) (N := 21) (atype := .long) (by decide) rfl tw_1163 (by decide) (by decide) (by decide) dX12_init_371 ha109 ?_
  obtain ⟨u111, hu111, h83⟩ := bnd_some h82
  refine rn_putR (pc := 373) (k := 50) okX12 (by decide) tw_1043 (Or.inr ⟨rfl, rfl, rfl⟩) rfl dX12_init_373 hu111 ?_
  refine rn_aload_n (pc := 376) 0 dX12_init_376 rfl rfl ?_
  refine rn_bipush (pc := 377) (v := 20) dX12_init_377 (by decide) ?_
  obtain ⟨a112, u113, ha112, h84⟩ := bnd2_some h83
  refine rn_newa (pc := 379) (N := 20) (atype := .int) (by decide) rfl tw_172 (by decide) (by decide) (by decide) dX12_init_379 ha112 ?_
  refine rn_dup (pc := 381) dX12_init_381 (rv_cat _) ?_
  refine rn_iconst (pc := 382) (v := 0) dX12_init_382 (by decide) ?_
  refine rn_iconst (pc := 383) (v := -1) dX12_init_383 (by decide) ?_
  obtain ⟨u114, hu114, h85⟩ := bnd_some h84
  refine rn_iast (pc := 384) dX12_init_384 hu114 ?_
  refine rn_dup (pc := 385) dX12_init_385 (rv_cat _) ?_
  refine rn_iconst (pc := 386) (v := 1) dX12_init_386 (by decide) ?_
  refine rn_iconst (pc := 387) (v := -1) dX12_init_387 (by decide) ?_
  obtain ⟨u115, hu115, h86⟩ := bnd_some h85
  refine rn_iast (pc := 388) dX12_init_388 hu115 ?_
  refine rn_dup (pc := 389) dX12_init_389 (rv_cat _) ?_
  refine rn_iconst (pc := 390) (v := 2) dX12_init_390 (by decide) ?_
  refine rn_iconst (pc := 391) (v := -1) dX12_init_391 (by decide) ?_
  obtain ⟨u116, hu116, h87⟩ := bnd_some h86
  refine rn_iast (pc := 392) dX12_init_392 hu116 ?_
  refine rn_dup (pc := 393) dX12_init_393 (rv_cat _) ?_
  refine rn_iconst (pc := 394) (v := 3) dX12_init_394 (by decide) ?_
  refine rn_iconst (pc := 395) (v := -1) dX12_init_395 (by decide) ?_
  obtain ⟨u117, hu117, h88⟩ := bnd_some h87
  refine rn_iast (pc := 396) dX12_init_396 hu117 ?_
  refine rn_dup (pc := 397) dX12_init_397 (rv_cat _) ?_
  refine rn_iconst (pc := 398) (v := 4) dX12_init_398 (by decide) ?_
  refine rn_iconst (pc := 399) (v := -1) dX12_init_399 (by decide) ?_
  obtain ⟨u118, hu118, h89⟩ := bnd_some h88
  refine rn_iast (pc := 400) dX12_init_400 hu118 ?_
  refine rn_dup (pc := 401) dX12_init_401 (rv_cat _) ?_
  refine rn_iconst (pc := 402) (v := 5) dX12_init_402 (by decide) ?_
  refine rn_iconst (pc := 403) (v := -1) dX12_init_403 (by decide) ?_
  obtain ⟨u119, hu119, h90⟩ := bnd_some h89
  refine rn_iast (pc := 404) dX12_init_404 hu119 ?_
  refine rn_dup (pc := 405) dX12_init_405 (rv_cat _) ?_
  refine rn_bipush (pc := 406) (v := 6) dX12_init_406 (by decide) ?_
  refine rn_iconst (pc := 408) (v := -1) dX12_init_408 (by decide) ?_
  obtain ⟨u120, hu120, h91⟩ := bnd_some h90
  refine rn_iast (pc := 409) dX12_init_409 hu120 ?_
  refine rn_dup (pc := 410) dX12_init_410 (rv_cat _) ?_
  refine rn_bipush (pc := 411) (v := 7) dX12_init_411 (by decide) ?_
  refine rn_iconst (pc := 413) (v := -1) dX12_init_413 (by decide) ?_
  obtain ⟨u121, hu121, h92⟩ := bnd_some h91
  refine rn_iast (pc := 414) dX12_init_414 hu121 ?_
  refine rn_dup (pc := 415) dX12_init_415 (rv_cat _) ?_
  refine rn_bipush (pc := 416) (v := 8) dX12_init_416 (by decide) ?_
  refine rn_iconst (pc := 418) (v := -1) dX12_init_418 (by decide) ?_
  obtain ⟨u122, hu122, h93⟩ := bnd_some h92
  refine rn_iast (pc := 419) dX12_init_419 hu122 ?_
  refine rn_dup (pc := 420) dX12_init_420 (rv_cat _) ?_
  refine rn_bipush (pc := 421) (v := 9) dX12_init_421 (by decide) ?_
  refine rn_iconst (pc := 423) (v := -1) dX12_init_423 (by decide) ?_
  obtain ⟨u123, hu123, h94⟩ := bnd_some h93
  refine rn_iast (pc := 424) dX12_init_424 hu123 ?_
  refine rn_dup (pc := 425) dX12_init_425 (rv_cat _) ?_
  refine rn_bipush (pc := 426) (v := 10) dX12_init_426 (by decide) ?_
  refine rn_iconst (pc := 428) (v := -1) dX12_init_428 (by decide) ?_
  obtain ⟨u124, hu124, h95⟩ := bnd_some h94
  refine rn_iast (pc := 429) dX12_init_429 hu124 ?_
  refine rn_dup (pc := 430) dX12_init_430 (rv_cat _) ?_
  refine rn_bipush (pc := 431) (v := 11) dX12_init_431 (by decide) ?_
  refine rn_iconst (pc := 433) (v := -1) dX12_init_433 (by decide) ?_
  obtain ⟨u125, hu125, h96⟩ := bnd_some h95
  refine rn_iast (pc := 434) dX12_init_434 hu125 ?_
  refine rn_dup (pc := 435) dX12_init_435 (rv_cat _) ?_
  refine rn_bipush (pc := 436) (v := 12) dX12_init_436 (by decide) ?_
  refine rn_iconst (pc := 438) (v := -1) dX12_init_438 (by decide) ?_
  obtain ⟨u126, hu126, h97⟩ := bnd_some h96
  refine rn_iast (pc := 439) dX12_init_439 hu126 ?_
  refine rn_dup (pc := 440) dX12_init_440 (rv_cat _) ?_
  refine rn_bipush (pc := 441) (v := 13) dX12_init_441 (by decide) ?_
  refine rn_iconst (pc := 443) (v := -1) dX12_init_443 (by decide) ?_
  obtain ⟨u127, hu127, h98⟩ := bnd_some h97
  refine rn_iast (pc := 444) dX12_init_444 hu127 ?_
  refine rn_dup (pc := 445) dX12_init_445 (rv_cat _) ?_
  refine rn_bipush (pc := 446) (v := 14) dX12_init_446 (by decide) ?_
  refine rn_iconst (pc := 448) (v := -1) dX12_init_448 (by decide) ?_
  obtain ⟨u128, hu128, h99⟩ := bnd_some h98
  refine rn_iast (pc := 449) dX12_init_449 hu128 ?_
  refine rn_dup (pc := 450) dX12_init_450 (rv_cat _) ?_
  refine rn_bipush (pc := 451) (v := 15) dX12_init_451 (by decide) ?_
  refine rn_iconst (pc := 453) (v := -1) dX12_init_453 (by decide) ?_
  obtain ⟨u129, hu129, h100⟩ := bnd_some h99
  refine rn_iast (pc := 454) dX12_init_454 hu129 ?_
  refine rn_dup (pc := 455) dX12_init_455 (rv_cat _) ?_
  refine rn_bipush (pc := 456) (v := 16) dX12_init_456 (by decide) ?_
  refine rn_iconst (pc := 458) (v := -1) dX12_init_458 (by decide) ?_
  obtain ⟨u130, hu130, h101⟩ := bnd_some h100
  refine rn_iast (pc := 459) dX12_init_459 hu130 ?_
  refine rn_dup (pc := 460) dX12_init_460 (rv_cat _) ?_
  refine rn_bipush (pc := 461) (v := 17) dX12_init_461 (by decide) ?_
  refine rn_iconst (pc := 463) (v := -1) dX12_init_463 (by decide) ?_
  obtain ⟨u131, hu131, h102⟩ := bnd_some h101
  refine rn_iast (pc := 464) dX12_init_464 hu131 ?_
  refine rn_dup (pc := 465) dX12_init_465 (rv_cat _) ?_
  refine rn_bipush (pc := 466) (v := 18) dX12_init_466 (by decide) ?_
  refine rn_iconst (pc := 468) (v := -1) dX12_init_468 (by decide) ?_
  obtain ⟨u132, hu132, h103⟩ := bnd_some h102
  refine rn_iast (pc := 469) dX12_init_469 hu132 ?_
  refine rn_dup (pc := 470) dX12_init_470 (rv_cat _) ?_
  refine rn_bipush (pc := 471) (v := 19) dX12_init_471 (by decide) ?_
  refine rn_iconst (pc := 473) (v := -1) dX12_init_473 (by decide) ?_
  obtain ⟨u133, hu133, h104⟩ := bnd_some h103
  refine rn_iast (pc := 474) dX12_init_474 hu133 ?_
  obtain ⟨u134, hu134, h105⟩ := bnd_some h104
  refine rn_putR (pc := 475) (k := 51) okX12 (by decide) tw_1044 (Or.inr ⟨rfl, rfl, rfl⟩) rfl dX12_init_475 hu134 ?_
  refine rn_aload_n (pc := 478) 0 dX12_init_478 rfl rfl ?_
  refine rn_bipush (pc := 479) (v := 20) dX12_init_479 (by decide) ?_
  obtain ⟨a135, u136, ha135, h106⟩ := bnd2_some h105
  refine rn_newa (pc := 481) (N := 20) (atype := .int) (by decide) rfl tw_172 (by decide) (by decide) (by decide) dX12_init_481 ha135 ?_
  obtain ⟨u137, hu137, h107⟩ := bnd_some h106
  refine rn_putR (pc := 483) (k := 52) okX12 (by decide) tw_1045 (Or.inr ⟨rfl, rfl, rfl⟩) rfl dX12_init_483 hu137 ?_
  refine rn_aload_n (pc := 486) 0 dX12_init_486 rfl rfl ?_
  refine rn_bipush (pc := 487) (v := 20) dX12_init_487 (by decide) ?_
  obtain ⟨a138, u139, ha138, h108⟩ := bnd2_some h107
  refine rn_newa (pc := 489) (N := 20) (atype := .int) (by decide) rfl tw_172 (by decide) (by decide) (by decide) dX12_init_489 ha138 ?_
  obtain ⟨u140, hu140, h109⟩ := bnd_some h108
  refine rn_putR (pc := 491) (k := 53) okX12 (by decide) tw_1046 (Or.inr ⟨rfl, rfl, rfl⟩) rfl dX12_init_491 hu140 ?_
  refine rn_aload_n (pc := 494) 0 dX12_init_494 rfl rfl ?_
  refine rn_bipush (pc := 495) (v := 20) dX12_init_495 (by decide) ?_
  obtain ⟨a141, u142, ha141, h110⟩ := bnd2_some h109
  refine rn_newa (pc := 497) (N := 20) (atype := .int) (by decide) rfl tw_172 (by decide) (by decide) (by decide) dX12_init_497 ha141 ?_
  obtain ⟨u143, hu143, h111⟩ := bnd_some h110
  refine rn_putR (pc := 499) (k := 54) okX12 (by decide) tw_1047 (Or.inr ⟨rfl, rfl, rfl⟩) rfl dX12_init_499 hu143 ?_
  cases h111
  exact rn_vret (pc := 502) rfl dX12_init_502
theorem eX12_init {l : Launch} {G : Gt} {d : Nat} {t0 : Nat} {u : Mem} {y : Mem} (h : fX12_init t0 u = some y) : Ex l G iX12_init (d + 4) [rv (some t0)] u (.returned none) y := Ex.of (by decide +kernel) (by decide) (Nat.le_of_ble_eq_true rfl) rfl (tX12_init h)

set_option maxHeartbeats 4000000 in
set_option maxRecDepth 100000 in
theorem d_X7_init (G : gG) (z0 : Nat) (l : Launch) {h : gH} {m : Nat} (hm : h m = some (.inr (7, [.int (nI 0), .null, .null, .int (nI 0), .int (nI 0), .null, .null, .int (nI 0), .int (nI 0), .int (nI 0), .int (nI 0), .int (nI 0), .null, .int (nI 0), .null, .null, .null, .null, .int (nI 0), .int (nI 0), .int (nI 0), .int (nI 0), .int (nI 0), .int (nI 0), .int (nI 0), .int (nI 0)]))) : gC G z0 l yX7_init wsX7_init 3 66 [.ref m] h (fun v h' => v = none ∧ ∃ (rows asd vals many way told oth lst text : Nat) (R A T : Nat → Int32), mS G h' m rows asd vals many way told oth lst text (nI 0) 0 (nI 0) (nI 0) (nI 0) (nI 0) (nI 0) (-1) (nI 0) (nI 0) (nI 0) R ∧ slD R (330 * 0) D0 ∧ h' asd = some (oI G 330 A) ∧ h' text = some (oI G 500 T) ∧ gfr [m] h h' ∧ h way = none ∧ h told = none ∧ h oth = none ∧ h text = none) 9 4510 := by
  refine gC_of (cc := cX7_init) (nL := 1) (ret := none) (by decide) rfl (Nat.le_of_ble_eq_true rfl) ?_
  intro X F E _
  change gF G z0 X cX7_init 1 RX7 wsX7_init none "<init>" 3 66 _ _ at F
  show gV G z0 X 0 0 h 0 [(0, .ref m)] []
  refine v_aload_n (pc' := 1) F dX7_init_0 rfl (j := 0) rfl rfl ?_
  refine v_objInit (pc' := 4) F m_X7_init_ml1 m_X7_init_oi m_X7_init_oc (by decide) (Nat.le_of_ble_eq_true rfl) dX7_init_1 rfl ?_
  refine v_aload_n (pc' := 5) F dX7_init_4 rfl (j := 0) rfl rfl ?_
  refine v_sipush (pc' := 8) (v := nI 2970) F dX7_init_5 (by decide) rfl ?_
  refine w_newaI (pc' := 10) F m_X7_init_acint (by omega) (by omega) (by omega) dX7_init_8 rfl (fun q1 h2 e3 a4 f5 => ?_)
  have g6 := f5 _ _ gn0 hm
  refine w_putfF (pc' := 13) F k_X7_init_7 tyX7_ok nmX7 g6 1 (by decide) m_X7_init_f7 rfl rfl rfl rfl rfl (show 1 < 26 by decide) [.int (nI 0), .ref q1, .null, .int (nI 0), .int (nI 0), .null, .null, .int (nI 0), .int (nI 0), .int (nI 0), .int (nI 0), .int (nI 0), .null, .int (nI 0), .null, .null, .null, .null, .int (nI 0), .int (nI 0), .int (nI 0), .int (nI 0), .int (nI 0), .int (nI 0), .int (nI 0), .int (nI 0)] rfl dX7_init_10 rfl (fun h7 a8 f9 => ?_)
  refine v_aload_n (pc' := 14) F dX7_init_13 rfl (j := 0) rfl rfl ?_
  refine v_sipush (pc' := 17) (v := nI 330) F dX7_init_14 (by decide) rfl ?_
  refine w_newaI (pc' := 19) F m_X7_init_acint (by omega) (by omega) (by omega) dX7_init_17 rfl (fun q10 h11 e12 a13 f14 => ?_)
  have g15 := f9 _ _ (gnc ((g_neN hm e3).symm) gn0) a4
  have g16 := f14 _ _ gn0 a8
  refine w_putfF (pc' := 22) F k_X7_init_7 tyX7_ok nmX7 g16 2 (by decide) m_X7_init_f13 rfl rfl rfl rfl rfl (show 2 < 26 by decide) [.int (nI 0), .ref q1, .ref q10, .int (nI 0), .int (nI 0), .null, .null, .int (nI 0), .int (nI 0), .int (nI 0), .int (nI 0), .int (nI 0), .null, .int (nI 0), .null, .null, .null, .null, .int (nI 0), .int (nI 0), .int (nI 0), .int (nI 0), .int (nI 0), .int (nI 0), .int (nI 0), .int (nI 0)] rfl dX7_init_19 rfl (fun h17 a18 f19 => ?_)
  refine v_aload_n (pc' := 23) F dX7_init_22 rfl (j := 0) rfl rfl ?_
  refine v_sipush (pc' := 26) (v := nI 384) F dX7_init_23 (by decide) rfl ?_
  refine w_newaI (pc' := 28) F m_X7_init_acint (by omega) (by omega) (by omega) dX7_init_26 rfl (fun q20 h21 e22 a23 f24 => ?_)
  have g25 := f14 _ _ gn0 g15
  have g26 := f19 _ _ (gnc ((g_neN hm e3).symm) gn0) g25
  have g27 := f19 _ _ (gnc ((g_neN a8 e12).symm) gn0) a13
  have g28 := f24 _ _ gn0 a18
  refine w_putfF (pc' := 31) F k_X7_init_7 tyX7_ok nmX7 g28 5 (by decide) m_X7_init_f16 rfl rfl rfl rfl rfl (show 5 < 26 by decide) [.int (nI 0), .ref q1, .ref q10, .int (nI 0), .int (nI 0), .ref q20, .null, .int (nI 0), .int (nI 0), .int (nI 0), .int (nI 0), .int (nI 0), .null, .int (nI 0), .null, .null, .null, .null, .int (nI 0), .int (nI 0), .int (nI 0), .int (nI 0), .int (nI 0), .int (nI 0), .int (nI 0), .int (nI 0)] rfl dX7_init_28 rfl (fun h29 a30 f31 => ?_)
  refine v_aload_n (pc' := 32) F dX7_init_31 rfl (j := 0) rfl rfl ?_
  refine v_bipush (pc' := 34) (v := nI 6) F dX7_init_32 (by decide) rfl ?_
  refine w_newaI (pc' := 36) F m_X7_init_acint (by omega) (by omega) (by omega) dX7_init_34 rfl (fun q32 h33 e34 a35 f36 => ?_)
  have g37 := f24 _ _ gn0 g26
  have g38 := f31 _ _ (gnc ((g_neN hm e3).symm) gn0) g37
  have g39 := f24 _ _ gn0 g27
  have g40 := f31 _ _ (gnc ((g_neN a8 e12).symm) gn0) g39
  have g41 := f31 _ _ (gnc ((g_neN a18 e22).symm) gn0) a23
  have g42 := f36 _ _ gn0 a30
  refine w_putfF (pc' := 39) F k_X7_init_7 tyX7_ok nmX7 g42 6 (by decide) m_X7_init_f19 rfl rfl rfl rfl rfl (show 6 < 26 by decide) [.int (nI 0), .ref q1, .ref q10, .int (nI 0), .int (nI 0), .ref q20, .ref q32, .int (nI 0), .int (nI 0), .int (nI 0), .int (nI 0), .int (nI 0), .null, .int (nI 0), .null, .null, .null, .null, .int (nI 0), .int (nI 0), .int (nI 0), .int (nI 0), .int (nI 0), .int (nI 0), .int (nI 0), .int (nI 0)] rfl dX7_init_36 rfl (fun h43 a44 f45 => ?_)
  refine v_aload_n (pc' := 40) F dX7_init_39 rfl (j := 0) rfl rfl ?_
  refine v_bipush (pc' := 42) (v := nI 64) F dX7_init_40 (by decide) rfl ?_
  refine w_newaI (pc' := 44) F m_X7_init_acint (by omega) (by omega) (by omega) dX7_init_42 rfl (fun q46 h47 e48 a49 f50 => ?_)
  have g51 := f36 _ _ gn0 g38
  have g52 := f45 _ _ (gnc ((g_neN hm e3).symm) gn0) g51
  have g53 := f36 _ _ gn0 g40
  have g54 := f45 _ _ (gnc ((g_neN a8 e12).symm) gn0) g53
  have g55 := f36 _ _ gn0 g41
  have g56 := f45 _ _ (gnc ((g_neN a18 e22).symm) gn0) g55
  have g57 := f45 _ _ (gnc ((g_neN a30 e34).symm) gn0) a35
  have g58 := f50 _ _ gn0 a44
  refine w_putfF (pc' := 47) F k_X7_init_7 tyX7_ok nmX7 g58 12 (by decide) m_X7_init_f22 rfl rfl rfl rfl rfl (show 12 < 26 by decide) [.int (nI 0), .ref q1, .ref q10, .int (nI 0), .int (nI 0), .ref q20, .ref q32, .int (nI 0), .int (nI 0), .int (nI 0), .int (nI 0), .int (nI 0), .ref q46, .int (nI 0), .null, .null, .null, .null, .int (nI 0), .int (nI 0), .int (nI 0), .int (nI 0), .int (nI 0), .int (nI 0), .int (nI 0), .int (nI 0)] rfl dX7_init_44 rfl (fun h59 a60 f61 => ?_)
  refine v_aload_n (pc' := 48) F dX7_init_47 rfl (j := 0) rfl rfl ?_
  refine v_bipush (pc' := 50) (v := nI 64) F dX7_init_48 (by decide) rfl ?_
  refine w_newaI (pc' := 52) F m_X7_init_acint (by omega) (by omega) (by omega) dX7_init_50 rfl (fun q62 h63 e64 a65 f66 => ?_)
  have g67 := f50 _ _ gn0 g52
  have g68 := f61 _ _ (gnc ((g_neN hm e3).symm) gn0) g67
  have g69 := f50 _ _ gn0 g54
  have g70 := f61 _ _ (gnc ((g_neN a8 e12).symm) gn0) g69
  have g71 := f50 _ _ gn0 g56
  have g72 := f61 _ _ (gnc ((g_neN a18 e22).symm) gn0) g71
  have g73 := f50 _ _ gn0 g57
  have g74 := f61 _ _ (gnc ((g_neN a30 e34).symm) gn0) g73
  have g75 := f61 _ _ (gnc ((g_neN a44 e48).symm) gn0) a49
  have g76 := f66 _ _ gn0 a60
  refine w_putfF (pc' := 55) F k_X7_init_7 tyX7_ok nmX7 g76 14 (by decide) m_X7_init_f25 rfl rfl rfl rfl rfl (show 14 < 26 by decide) [.int (nI 0), .ref q1, .ref q10, .int (nI 0), .int (nI 0), .ref q20, .ref q32, .int (nI 0), .int (nI 0), .int (nI 0), .int (nI 0), .int (nI 0), .ref q46, .int (nI 0), .ref q62, .null, .null, .null, .int (nI 0), .int (nI 0), .int (nI 0), .int (nI 0), .int (nI 0), .int (nI 0), .int (nI 0), .int (nI 0)] rfl dX7_init_52 rfl (fun h77 a78 f79 => ?_)
  refine v_aload_n (pc' := 56) F dX7_init_55 rfl (j := 0) rfl rfl ?_
  refine v_bipush (pc' := 58) (v := nI 64) F dX7_init_56 (by decide) rfl ?_
  refine w_newaI (pc' := 60) F m_X7_init_acint (by omega) (by omega) (by omega) dX7_init_58 rfl (fun q80 h81 e82 a83 f84 => ?_)
  have g85 := f66 _ _ gn0 g68
  have g86 := f79 _ _ (gnc ((g_neN hm e3).symm) gn0) g85
  have g87 := f66 _ _ gn0 g70
  have g88 := f79 _ _ (gnc ((g_neN a8 e12).symm) gn0) g87
  have g89 := f66 _ _ gn0 g72
  have g90 := f79 _ _ (gnc ((g_neN a18 e22).symm) gn0) g89
  have g91 := f66 _ _ gn0 g74
  have g92 := f79 _ _ (gnc ((g_neN a30 e34).symm) gn0) g91
  have g93 := f66 _ _ gn0 g75
  have g94 := f79 _ _ (gnc ((g_neN a44 e48).symm) gn0) g93
  have g95 := f79 _ _ (gnc ((g_neN a60 e64).symm) gn0) a65
  have g96 := f84 _ _ gn0 a78
  refine w_putfF (pc' := 63) F k_X7_init_7 tyX7_ok nmX7 g96 15 (by decide) m_X7_init_f28 rfl rfl rfl rfl rfl (show 15 < 26 by decide) [.int (nI 0), .ref q1, .ref q10, .int (nI 0), .int (nI 0), .ref q20, .ref q32, .int (nI 0), .int (nI 0), .int (nI 0), .int (nI 0), .int (nI 0), .ref q46, .int (nI 0), .ref q62, .ref q80, .null, .null, .int (nI 0), .int (nI 0), .int (nI 0), .int (nI 0), .int (nI 0), .int (nI 0), .int (nI 0), .int (nI 0)] rfl dX7_init_60 rfl (fun h97 a98 f99 => ?_)
  refine v_aload_n (pc' := 64) F dX7_init_63 rfl (j := 0) rfl rfl ?_
  refine v_sipush (pc' := 67) (v := nI 128) F dX7_init_64 (by decide) rfl ?_
  refine w_newaI (pc' := 69) F m_X7_init_acint (by omega) (by omega) (by omega) dX7_init_67 rfl (fun q100 h101 e102 a103 f104 => ?_)
  have g105 := f84 _ _ gn0 g86
  have g106 := f99 _ _ (gnc ((g_neN hm e3).symm) gn0) g105
  have g107 := f84 _ _ gn0 g88
  have g108 := f99 _ _ (gnc ((g_neN a8 e12).symm) gn0) g107
  have g109 := f84 _ _ gn0 g90
  have g110 := f99 _ _ (gnc ((g_neN a18 e22).symm) gn0) g109
  have g111 := f84 _ _ gn0 g92
  have g112 := f99 _ _ (gnc ((g_neN a30 e34).symm) gn0) g111
  have g113 := f84 _ _ gn0 g94
  have g114 := f99 _ _ (gnc ((g_neN a44 e48).symm) gn0) g113
  have g115 := f84 _ _ gn0 g95
  have g116 := f99 _ _ (gnc ((g_neN a60 e64).symm) gn0) g115
  have g117 := f99 _ _ (gnc ((g_neN a78 e82).symm) gn0) a83
  have g118 := f104 _ _ gn0 a98
  refine w_putfF (pc' := 72) F k_X7_init_7 tyX7_ok nmX7 g118 16 (by decide) m_X7_init_f31 rfl rfl rfl rfl rfl (show 16 < 26 by decide) [.int (nI 0), .ref q1, .ref q10, .int (nI 0), .int (nI 0), .ref q20, .ref q32, .int (nI 0), .int (nI 0), .int (nI 0), .int (nI 0), .int (nI 0), .ref q46, .int (nI 0), .ref q62, .ref q80, .ref q100, .null, .int (nI 0), .int (nI 0), .int (nI 0), .int (nI 0), .int (nI 0), .int (nI 0), .int (nI 0), .int (nI 0)] rfl dX7_init_69 rfl (fun h119 a120 f121 => ?_)
  refine v_aload_n (pc' := 73) F dX7_init_72 rfl (j := 0) rfl rfl ?_
  refine v_sipush (pc' := 76) (v := nI 500) F dX7_init_73 (by decide) rfl ?_
  refine w_newaI (pc' := 78) F m_X7_init_acint (by omega) (by omega) (by omega) dX7_init_76 rfl (fun q122 h123 e124 a125 f126 => ?_)
  have g127 := f104 _ _ gn0 g106
  have g128 := f121 _ _ (gnc ((g_neN hm e3).symm) gn0) g127
  have g129 := f104 _ _ gn0 g108
  have g130 := f121 _ _ (gnc ((g_neN a8 e12).symm) gn0) g129
  have g131 := f104 _ _ gn0 g110
  have g132 := f121 _ _ (gnc ((g_neN a18 e22).symm) gn0) g131
  have g133 := f104 _ _ gn0 g112
  have g134 := f121 _ _ (gnc ((g_neN a30 e34).symm) gn0) g133
  have g135 := f104 _ _ gn0 g114
  have g136 := f121 _ _ (gnc ((g_neN a44 e48).symm) gn0) g135
  have g137 := f104 _ _ gn0 g116
  have g138 := f121 _ _ (gnc ((g_neN a60 e64).symm) gn0) g137
  have g139 := f104 _ _ gn0 g117
  have g140 := f121 _ _ (gnc ((g_neN a78 e82).symm) gn0) g139
  have g141 := f121 _ _ (gnc ((g_neN a98 e102).symm) gn0) a103
  have g142 := f126 _ _ gn0 a120
  refine w_putfF (pc' := 81) F k_X7_init_7 tyX7_ok nmX7 g142 17 (by decide) m_X7_init_f34 rfl rfl rfl rfl rfl (show 17 < 26 by decide) [.int (nI 0), .ref q1, .ref q10, .int (nI 0), .int (nI 0), .ref q20, .ref q32, .int (nI 0), .int (nI 0), .int (nI 0), .int (nI 0), .int (nI 0), .ref q46, .int (nI 0), .ref q62, .ref q80, .ref q100, .ref q122, .int (nI 0), .int (nI 0), .int (nI 0), .int (nI 0), .int (nI 0), .int (nI 0), .int (nI 0), .int (nI 0)] rfl dX7_init_78 rfl (fun h143 a144 f145 => ?_)
  refine v_aload_n (pc' := 82) F dX7_init_81 rfl (j := 0) rfl rfl ?_
  refine v_iconst (pc' := 83) (v := (-1)) F dX7_init_82 (by decide) rfl ?_
  refine w_putf (pc' := 86) F k_X7_init_7 tyX7_ok nmX7 a144 22 (by decide) m_X7_init_f37 rfl  rfl rfl (show 22 < 26 by decide) [.int (nI 0), .ref q1, .ref q10, .int (nI 0), .int (nI 0), .ref q20, .ref q32, .int (nI 0), .int (nI 0), .int (nI 0), .int (nI 0), .int (nI 0), .ref q46, .int (nI 0), .ref q62, .ref q80, .ref q100, .ref q122, .int (nI 0), .int (nI 0), .int (nI 0), .int (nI 0), .int (-1), .int (nI 0), .int (nI 0), .int (nI 0)] rfl dX7_init_83 rfl (fun h146 a147 f148 => ?_)
  refine v_aload_n (pc' := 87) F dX7_init_86 rfl (j := 0) rfl rfl ?_
  have g149 := f126 _ _ gn0 g128
  have g150 := f145 _ _ (gnc ((g_neN hm e3).symm) gn0) g149
  have g151 := f148 _ _ (gnc ((g_neN hm e3).symm) gn0) g150
  have g152 := f126 _ _ gn0 g130
  have g153 := f145 _ _ (gnc ((g_neN a8 e12).symm) gn0) g152
  have g154 := f148 _ _ (gnc ((g_neN a8 e12).symm) gn0) g153
  have g155 := f126 _ _ gn0 g132
  have g156 := f145 _ _ (gnc ((g_neN a18 e22).symm) gn0) g155
  have g157 := f148 _ _ (gnc ((g_neN a18 e22).symm) gn0) g156
  have g158 := f126 _ _ gn0 g134
  have g159 := f145 _ _ (gnc ((g_neN a30 e34).symm) gn0) g158
  have g160 := f148 _ _ (gnc ((g_neN a30 e34).symm) gn0) g159
  have g161 := f126 _ _ gn0 g136
  have g162 := f145 _ _ (gnc ((g_neN a44 e48).symm) gn0) g161
  have g163 := f148 _ _ (gnc ((g_neN a44 e48).symm) gn0) g162
  have g164 := f126 _ _ gn0 g138
  have g165 := f145 _ _ (gnc ((g_neN a60 e64).symm) gn0) g164
  have g166 := f148 _ _ (gnc ((g_neN a60 e64).symm) gn0) g165
  have g167 := f126 _ _ gn0 g140
  have g168 := f145 _ _ (gnc ((g_neN a78 e82).symm) gn0) g167
  have g169 := f148 _ _ (gnc ((g_neN a78 e82).symm) gn0) g168
  have g170 := f126 _ _ gn0 g141
  have g171 := f145 _ _ (gnc ((g_neN a98 e102).symm) gn0) g170
  have g172 := f148 _ _ (gnc ((g_neN a98 e102).symm) gn0) g171
  have g173 := f145 _ _ (gnc ((g_neN a120 e124).symm) gn0) a125
  have g174 := f148 _ _ (gnc ((g_neN a120 e124).symm) gn0) g173
  have fr175 : gfr [m] h h43 := (gfr.t (gfr.mono0 f5) (gfr.t f9 (gfr.t (gfr.mono0 f14) (gfr.t f19 (gfr.t (gfr.mono0 f24) (gfr.t f31 (gfr.t (gfr.mono0 f36) f45)))))))
  have e176 := gfr.non fr175 e48 (gnc ((g_neN a44 e48).symm) gn0)
  have fr177 : gfr [m] h h59 := (gfr.t (gfr.mono0 f5) (gfr.t f9 (gfr.t (gfr.mono0 f14) (gfr.t f19 (gfr.t (gfr.mono0 f24) (gfr.t f31 (gfr.t (gfr.mono0 f36) (gfr.t f45 (gfr.t (gfr.mono0 f50) f61)))))))))
  have e178 := gfr.non fr177 e64 (gnc ((g_neN a60 e64).symm) gn0)
  have fr179 : gfr [m] h h77 := (gfr.t (gfr.mono0 f5) (gfr.t f9 (gfr.t (gfr.mono0 f14) (gfr.t f19 (gfr.t (gfr.mono0 f24) (gfr.t f31 (gfr.t (gfr.mono0 f36) (gfr.t f45 (gfr.t (gfr.mono0 f50) (gfr.t f61 (gfr.t (gfr.mono0 f66) f79)))))))))))
  have e180 := gfr.non fr179 e82 (gnc ((g_neN a78 e82).symm) gn0)
  have fr181 : gfr [m] h h119 := (gfr.t (gfr.mono0 f5) (gfr.t f9 (gfr.t (gfr.mono0 f14) (gfr.t f19 (gfr.t (gfr.mono0 f24) (gfr.t f31 (gfr.t (gfr.mono0 f36) (gfr.t f45 (gfr.t (gfr.mono0 f50) (gfr.t f61 (gfr.t (gfr.mono0 f66) (gfr.t f79 (gfr.t (gfr.mono0 f84) (gfr.t f99 (gfr.t (gfr.mono0 f104) f121)))))))))))))))
  have e182 := gfr.non fr181 e124 (gnc ((g_neN a120 e124).symm) gn0)
  refine v_callV (pc' := 90) (rt := none) (mcc := 0) (msc := 0) (As := []) (st := []) F (fun l => c_X7_begins G z0 l (now := 0) a147 g151 (by omega)) gX7_init_X7_begins rfl hv_X7_begins (by decide) (by decide) a147 rfl rfl rfl (Nat.le_of_ble_eq_true rfl) (by omega) (by omega) dX7_init_87 rfl (fun v184 h183 hqb => ?_)
  obtain ⟨rfl, RB, hrB, hSB, hoB, frB⟩ := hqb
  have fr186 : gfr [q1, m] h h183 := (gfr.t (gfr.mono0 f5) (gfr.t (gfr.mono f9 (by intro q9 z9 m9; apply z9; simp only [List.mem_cons, List.not_mem_nil, or_false] at m9 ⊢; omega)) (gfr.t (gfr.mono0 f14) (gfr.t (gfr.mono f19 (by intro q9 z9 m9; apply z9; simp only [List.mem_cons, List.not_mem_nil, or_false] at m9 ⊢; omega)) (gfr.t (gfr.mono0 f24) (gfr.t (gfr.mono f31 (by intro q9 z9 m9; apply z9; simp only [List.mem_cons, List.not_mem_nil, or_false] at m9 ⊢; omega)) (gfr.t (gfr.mono0 f36) (gfr.t (gfr.mono f45 (by intro q9 z9 m9; apply z9; simp only [List.mem_cons, List.not_mem_nil, or_false] at m9 ⊢; omega)) (gfr.t (gfr.mono0 f50) (gfr.t (gfr.mono f61 (by intro q9 z9 m9; apply z9; simp only [List.mem_cons, List.not_mem_nil, or_false] at m9 ⊢; omega)) (gfr.t (gfr.mono0 f66) (gfr.t (gfr.mono f79 (by intro q9 z9 m9; apply z9; simp only [List.mem_cons, List.not_mem_nil, or_false] at m9 ⊢; omega)) (gfr.t (gfr.mono0 f84) (gfr.t (gfr.mono f99 (by intro q9 z9 m9; apply z9; simp only [List.mem_cons, List.not_mem_nil, or_false] at m9 ⊢; omega)) (gfr.t (gfr.mono0 f104) (gfr.t (gfr.mono f121 (by intro q9 z9 m9; apply z9; simp only [List.mem_cons, List.not_mem_nil, or_false] at m9 ⊢; omega)) (gfr.t (gfr.mono0 f126) (gfr.t (gfr.mono f145 (by intro q9 z9 m9; apply z9; simp only [List.mem_cons, List.not_mem_nil, or_false] at m9 ⊢; omega)) (gfr.t (gfr.mono f148 (by intro q9 z9 m9; apply z9; simp only [List.mem_cons, List.not_mem_nil, or_false] at m9 ⊢; omega)) (gfr.mono frB (by intro q9 z9 m9; apply z9; simp only [List.mem_cons, List.not_mem_nil, or_false] at m9 ⊢; omega)))))))))))))))))))))
  have fr185 := gfr.drop e3 fr186
  have g187 := frB _ _ (gnc ((g_neN g15 e12).symm) gn0) g154
  have g188 := frB _ _ (gnc ((g_neN g26 e22).symm) gn0) g157
  have g189 := frB _ _ (gnc ((g_neN g38 e34).symm) gn0) g160
  have g190 := frB _ _ (gnc ((g_neN g52 e48).symm) gn0) g163
  have g191 := frB _ _ (gnc ((g_neN g68 e64).symm) gn0) g166
  have g192 := frB _ _ (gnc ((g_neN g86 e82).symm) gn0) g169
  have g193 := frB _ _ (gnc ((g_neN g106 e102).symm) gn0) g172
  have g194 := frB _ _ (gnc ((g_neN g128 e124).symm) gn0) g174
  have g195 := frB _ _ (gnc (g_neN hm e3) gn0) a147
  exact v_vret F E (by omega) (by omega)  dX7_init_90 ⟨rfl, q1, q10, q20, q32, q46, q62, q80, q100, q122, RB, _, _, ⟨_, _, _, _, _, _, g195, hrB, ⟨_, g188⟩, ⟨_, g189⟩, ⟨_, g190⟩, ⟨_, g191⟩, ⟨_, g192⟩, ⟨_, g193⟩, ((g_neN g75 e64).symm), ((g_neN g94 e82).symm), (g_neN g95 e82)⟩, hSB, g187, g194, fr185, e176, e178, e180, e182⟩
theorem k_L_law_6 : gCl wsL_law 6 RX6 TX6 10 := ⟨by decide +kernel, rfl⟩
theorem m_L_law_c8 : Cond.classLink RL 8 RX6 ∈ wsL_law := by decide +kernel
theorem m_L_law_in6 : Cond.instantiable RX6 10 ∈ wsL_law := by decide +kernel
theorem m_L_law_ini6 : Cond.initialized RX6 ∈ wsL_law := by decide +kernel
theorem m_L_law_ml66 : Cond.methodLink RL 66 yX6_init ∈ wsL_law := by decide +kernel
theorem m_L_law_imX6_init : Cond.instanceMethod yX6_init ∈ wsL_law := by decide +kernel
theorem hd_X6_init : yX6_init.cls ≠ "java/lang/invoke/MethodHandle" ∧ yX6_init.cls ≠ "java/lang/invoke/VarHandle" ∧ (parseMethodDescriptor yX6_init.desc).map (fun d => d.parameters.length) = some 0 := by decide +kernel
theorem k_L_law_7 : gCl wsL_law 7 RX7 TX7 26 := ⟨by decide +kernel, rfl⟩
theorem m_L_law_c67 : Cond.classLink RL 67 RX7 ∈ wsL_law := by decide +kernel
theorem m_L_law_in7 : Cond.instantiable RX7 26 ∈ wsL_law := by decide +kernel
theorem m_L_law_ini7 : Cond.initialized RX7 ∈ wsL_law := by decide +kernel
theorem m_L_law_ml69 : Cond.methodLink RL 69 yX7_init ∈ wsL_law := by decide +kernel
theorem m_L_law_imX7_init : Cond.instanceMethod yX7_init ∈ wsL_law := by decide +kernel
theorem hd_X7_init : yX7_init.cls ≠ "java/lang/invoke/MethodHandle" ∧ yX7_init.cls ≠ "java/lang/invoke/VarHandle" ∧ (parseMethodDescriptor yX7_init.desc).map (fun d => d.parameters.length) = some 0 := by decide +kernel
theorem m_L_law_aclong : Cond.arrayClass .long ∈ wsL_law := by decide +kernel
set_option maxHeartbeats 4000000 in
set_option maxRecDepth 100000 in
theorem law_start {G : gG} {z0 : Nat} {X : gX} {mc ms N sb : Nat} {nm : String} {xs : Nat → Int32} {h : gH} (F : gF G z0 X cL_law 9 RL wsL_law (some .boolean) nm 14 526 mc ms) (hst : X.2.1.stackTraces = false) (hSc : gSc z0 X sb N xs) (hN : N ≤ 3072) (hmc : 601024 ≤ mc) (hms : 7293034 ≤ ms) (K : ∀ (cells slots : Nat) (h : gH) (L : List (Nat × Value)), cells ≤ mc → slots ≤ ms → gV G z0 X cells slots h 1259 L [.int (nI 1)]) : gV G z0 X 0 0 h 0 [(0, .ref sb)] [] := by
  refine w_new (pc' := 3) F [.null, .null, .null, .null, .null, .null, .int (nI 0), .int (nI 0), .int (nI 0), .int (nI 0)] k_L_law_6 tyX6_ok m_L_law_c8 m_L_law_in6 m_L_law_ini6 (g_dv6 ) (by omega) (by omega) dL_law_0 rfl (fun q1 h2 e3 a4 f5 => ?_)
  refine v_dup (pc' := 4) F dL_law_3 rfl rfl ?_
  refine v_callI (pc' := 7) (mcc := 28) (msc := 1347) (As := []) (st := [.ref q1]) F (fun l => c_X6_init G z0 l a4) gL_law_X6_init rfl m_L_law_ini6 m_L_law_ml66 m_L_law_imX6_init rfl hd_X6_init (by decide) (by decide) rfl rfl (Nat.le_of_ble_eq_true rfl) (by omega) (by omega) dL_law_4 rfl (fun v7 h6 hq => ?_)
  obtain ⟨rfl, buf, rd, bks, oq, rw, orw, root, bk, bv, hX6, hbuf, hrd, hscr, hrwo, hvc, ten, fx⟩ := hq
  have hC : CI G h6 q1 buf rd bks oq rw orw root bk bv (fun _ => 0) 0 (-1) 0 0 0 (fun _ => D0) := ⟨hX6, ⟨by omega, by omega, by omega⟩, ⟨_, hbuf, fun j hj => absurd hj (Nat.not_lt_zero j)⟩, hrd, hscr, hrwo, hvc, fun j hj => by
      obtain ⟨c1, f, c2, c3⟩ := ten.1 j hj
      exact ⟨1, 2, 0, f, c1, c2, c3 0 (by omega)⟩, ⟨fun i j hi hj => ten.2.1 i j hi hj, fun i j hi hj => ten.2.2 i j hi hj⟩, fun i hi => by
      obtain rfl : i = 0 := by omega
      exact ⟨wfD.d0, Nat.le_refl _, fun _ => root, fun _ => [], ⟨ten.1 0 (by omega), fun i hi => hvc, rfl, fun i h0 hi => absurd hi (by show ¬ i < 1; omega), fun i j hi hj _ => by change i < 1 at hi; change j < 1 at hj; omega⟩, rfl⟩⟩
  refine v_astore_n (pc' := 8) (i := 1) (L' := [(1, .ref q1), (0, .ref sb)]) F dL_law_7 rfl (by decide) rfl rfl ?_
  refine w_new (pc' := 11) F [.int (nI 0), .null, .null, .int (nI 0), .int (nI 0), .null, .null, .int (nI 0), .int (nI 0), .int (nI 0), .int (nI 0), .int (nI 0), .null, .int (nI 0), .null, .null, .null, .null, .int (nI 0), .int (nI 0), .int (nI 0), .int (nI 0), .int (nI 0), .int (nI 0), .int (nI 0), .int (nI 0)] k_L_law_7 tyX7_ok m_L_law_c67 m_L_law_in7 m_L_law_ini7 (g_dv7 ) (by omega) (by omega) dL_law_8 rfl (fun q8 h9 e10 a11 f12 => ?_)
  refine v_dup (pc' := 12) F dL_law_11 rfl rfl ?_
  have fr13 : gfr [] h6 h9 := f12
  have hCA := hC.fr (S := []) (fun s9 hs9 => absurd hs9 List.not_mem_nil) fr13
  refine v_callI (pc' := 15) (mcc := 9) (msc := 4510) (As := []) (st := [.ref q8]) F (fun l => d_X7_init G z0 l a11) gL_law_X7_init rfl m_L_law_ini7 m_L_law_ml69 m_L_law_imX7_init rfl hd_X7_init (by decide) (by decide) rfl rfl (Nat.le_of_ble_eq_true rfl) (by omega) (by omega) dL_law_12 rfl (fun v15 h14 hq => ?_)
  obtain ⟨rfl, rows, asd, vals, many, way, told, oth, lst, text, R, A, T, hMS, hSD, hasd, htext, fm, nw, nt, no, nx⟩ := hq
  have fr17 : gfr [q8] h6 h14 := (gfr.t (gfr.mono0 f12) fm)
  have fr16 := gfr.drop e10 fr17
  have hM : MI G h14 q8 rows asd vals many way told oth lst text (fun _ => 0) 0 (-1) 0 0 (fun _ => D0) := ⟨_, _, _, _, _, _, _, R, A, T, hMS, by omega, hasd, htext, fun j hj => absurd hj (Nat.not_lt_zero j), fun i hi => by
      obtain rfl : i = 0 := by omega
      exact hSD⟩
  have hAP : AP buf rw orw way told oth text := by
    obtain ⟨fb, c5, -⟩ := hCA.2.2.1
    obtain ⟨⟨f8, c9⟩, ⟨f9, c10⟩, -⟩ := hCA.2.2.2.2.1
    exact ⟨g_neN c9 nw, g_neN c9 nt, g_neN c9 no, g_neN c10 nw, g_neN c10 nt, g_neN c10 no, g_neN c5 nx⟩
  refine v_astore_n (pc' := 16) (i := 2) (L' := [(2, .ref q8), (1, .ref q1), (0, .ref sb)]) F dL_law_15 rfl (by decide) rfl rfl ?_
  refine v_iconst (pc' := 17) (v := nI 1) F dL_law_16 (by decide) rfl ?_
  refine w_newaL (pc' := 19) F m_L_law_aclong (by omega) (by omega) (by omega) dL_law_17 rfl (fun q18 h19 e20 a21 f22 => ?_)
  refine v_astore_n (pc' := 20) (i := 3) (L' := [(3, .ref q18), (2, .ref q8), (1, .ref q1), (0, .ref sb)]) F dL_law_19 rfl (by decide) rfl rfl ?_
  refine v_iconst (pc' := 21) (v := nI 0) F dL_law_20 (by decide) rfl ?_
  refine v_istore (pc' := 23) (i := 4) (L' := [(4, .int (nI 0)), (3, .ref q18), (2, .ref q8), (1, .ref q1), (0, .ref sb)]) F dL_law_21  (by decide) rfl rfl ?_
  have fr24 : gfr [q8] h6 h19 := (gfr.t (gfr.mono0 f12) (gfr.t fm (gfr.mono0 f22)))
  have fr23 := gfr.drop e10 fr24
  have fr25 : gfr [] h14 h19 := f22
  refine v_sub (L' := [(4, .int (nI 0)), (3, .ref q18), (2, .ref q8), (1, .ref q1), (0, .ref sb)]) [0, 1, 2, 3, 4] rfl ?_
  exact law_loop F hst hSc hN K 512 0 0 _ _ _ (by omega) (Nat.zero_le _) (by omega) (by omega) (by omega) ⟨_, _, _, _, _, _, _, _, hC.fr (S := []) (fun s9 hs9 => absurd hs9 List.not_mem_nil) fr23, hM.fr (S := []) (fun _ _ => List.not_mem_nil) fr25, hAP, a21⟩

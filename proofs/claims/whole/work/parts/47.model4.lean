/-! THE REFERENCE: a step of its turn -/
def mdT (ls : Nat → List Int32) (f r : List Int32) (T : mT) : Prop := ls 0 = f ∧ ls 1 = r ∧ ls 2 = T.2.2.1 ∧ (T.1 ≠ 3 → ls 3 = T.2.2.2.1) ∧ ls 4 = T.2.2.2.2.1 ∧ ls 5 = T.2.2.2.2.2
theorem k_X7_isStep_7 : gCl wsX7_isStep 7 RX7 TX7 26 := ⟨by decide +kernel, rfl⟩
theorem m_X7_isStep_f79 : Cond.fieldLink RX7 79 "SteadyQueuesModel" "kind" "I" ∈ wsX7_isStep := by decide +kernel
theorem m_X7_isStep_f19 : Cond.fieldLink RX7 19 "SteadyQueuesModel" "many" "[I" ∈ wsX7_isStep := by decide +kernel
theorem hv_X7_takes : yX7_takes.cls = RX7 ∧ yX7_takes.cls ≠ "java/lang/invoke/MethodHandle" ∧ yX7_takes.cls ≠ "java/lang/invoke/VarHandle" ∧ (parseMethodDescriptor yX7_takes.desc).map (fun d => d.parameters.length) = some 1 := by decide +kernel
theorem hv_X7_ahead : yX7_ahead.cls = RX7 ∧ yX7_ahead.cls ≠ "java/lang/invoke/MethodHandle" ∧ yX7_ahead.cls ≠ "java/lang/invoke/VarHandle" ∧ (parseMethodDescriptor yX7_ahead.desc).map (fun d => d.parameters.length) = some 2 := by decide +kernel
theorem m_X7_isStep_f82 : Cond.fieldLink RX7 82 "SteadyQueuesModel" "ok" "I" ∈ wsX7_isStep := by decide +kernel
set_option maxHeartbeats 4000000 in
set_option maxRecDepth 100000 in
theorem c_X7_isStep_a (G : gG) (z0 : Nat) (l : Launch) {h : gH} {m rows asd vals many  way told oth lst text : Nat} {th now und fl rl st wm fed len spot fa fat num frm may : Int32} {V M : Nat → Int32} {ls : Nat → List Int32} {f r : List Int32} {ok : Nat} {a b : Int32} {oF nF oR nR : List Int32} (hm : h m = some (.inr (7, [.int th, .ref rows, .ref asd, .int now, .int und, .ref vals, .ref many, .int fl, .int rl, .int (nI 1), .int (nI ok), .int st, .ref way, .int wm, .ref told, .ref oth, .ref lst, .ref text, .int fed, .int len, .int spot, .int fa, .int fat, .int num, .int frm, .int may]))) (hvals : h vals = some (oI G 384 V)) (hmany : h many = some (oI G 6 M)) (hls : mdL V M ls) (hT : mdT ls f r (1, ok, a :: oF, nF, b :: oR, nR)) (hn1 : nF.length < 64) (hn2 : nR.length < 64) (hok : ok < 1000) (ho1 : oF.length < 64) (ho2 : oR.length < 64) : gC G z0 l yX7_isStep wsX7_isStep 1 22 [.ref m] h (fun v h' => v = some (.int (nI 1)) ∧ h' m = some (.inr (7, [.int th, .ref rows, .ref asd, .int now, .int und, .ref vals, .ref many, .int fl, .int rl, .int (nI 1), .int (nI (ok + 1)), .int st, .ref way, .int wm, .ref told, .ref oth, .ref lst, .ref text, .int fed, .int len, .int spot, .int fa, .int fat, .int num, .int frm, .int may])) ∧ ∃ V' M' ls', h' vals = some (oI G 384 V') ∧ h' many = some (oI G 6 M') ∧ mdL V' M' ls' ∧ mdT ls' f r (1, ok + 1, oF, a :: nF, oR, b :: nR) ∧ gfr [m, vals, many] h h') 0 0 := by
  refine gC_of (cc := cX7_isStep) (nL := 1) (ret := (some .boolean)) (by decide) rfl (Nat.le_of_ble_eq_true rfl) ?_
  intro X F E _
  change gF G z0 X cX7_isStep 1 RX7 wsX7_isStep (some .boolean) "isStep" 1 22 _ _ at F
  show gV G z0 X 0 0 h 0 [(0, .ref m)] []
  obtain ⟨q0, q1, q2, q3, q4, q5⟩ := hT
  simp only at q2 q3 q4 q5
  replace q3 := q3 (by decide)
  refine v_aload_n (pc' := 1) F dX7_isStep_0 rfl (j := 0) rfl rfl ?_
  refine v_getf (pc' := 4) (v := .int (nI 1)) F k_X7_isStep_7 hm 9 (by decide) m_X7_isStep_f79 rfl dX7_isStep_1 rfl ?_
  refine v_iconst (pc' := 5) (v := nI 1) F dX7_isStep_4 (by decide) rfl ?_
  refine w_icmp_ne (tgt := 58) (pc' := 8) F (by omega) (by omega) dX7_isStep_5 (by decide) rfl (fun c0 => absurd c0 (by omega)) (fun _ => ?_)
  refine v_aload_n (pc' := 9) F dX7_isStep_8 rfl (j := 0) rfl rfl ?_
  refine v_getf (pc' := 12) (v := .ref many) F k_X7_isStep_7 hm 6 (by decide) m_X7_isStep_f19 rfl dX7_isStep_9 rfl ?_
  refine v_iconst (pc' := 13) (v := nI 2) F dX7_isStep_12 (by decide) rfl ?_
  refine w_iald (pc' := 14) (v := nI (oF.length + 1)) F hmany (by omega) (by omega) (by have := (hls 2 (by omega)).1; rw [this, q2]; first | rfl | simp) dX7_isStep_13 rfl ?_
  refine w_if_le (tgt := 58) (pc' := 17) F (by omega) dX7_isStep_14 (by decide) rfl (fun c0 => absurd c0 (by omega)) (fun _ => ?_)
  refine v_aload_n (pc' := 18) F dX7_isStep_17 rfl (j := 0) rfl rfl ?_
  refine v_getf (pc' := 21) (v := .ref many) F k_X7_isStep_7 hm 6 (by decide) m_X7_isStep_f19 rfl dX7_isStep_18 rfl ?_
  refine v_iconst (pc' := 22) (v := nI 4) F dX7_isStep_21 (by decide) rfl ?_
  refine w_iald (pc' := 23) (v := nI (oR.length + 1)) F hmany (by omega) (by omega) (by have := (hls 4 (by omega)).1; rw [this, q4]; first | rfl | simp) dX7_isStep_22 rfl ?_
  refine w_if_le (tgt := 58) (pc' := 26) F (by omega) dX7_isStep_23 (by decide) rfl (fun c0 => absurd c0 (by omega)) (fun _ => ?_)
  refine v_aload_n (pc' := 27) F dX7_isStep_26 rfl (j := 0) rfl rfl ?_
  refine v_iconst (pc' := 28) (v := nI 3) F dX7_isStep_27 (by decide) rfl ?_
  refine v_aload_n (pc' := 29) F dX7_isStep_28 rfl (j := 0) rfl rfl ?_
  refine v_iconst (pc' := 30) (v := nI 2) F dX7_isStep_29 (by decide) rfl ?_
  refine v_callV (pc' := 33) (rt := (some .int)) (mcc := 0) (msc := 0) (As := [.int (nI 2)]) (st := [.int (nI 3), .ref m]) F (fun l => c_X7_takes G z0 l (L := 2) (x := a) (xs := oF) hm hvals hmany hls (by omega) (by simp [va_up, q2, q3, q4, q5])) gX7_isStep_X7_takes rfl hv_X7_takes (by decide) (by decide) hm rfl rfl rfl (Nat.le_of_ble_eq_true rfl) (by omega) (by omega) dX7_isStep_30 rfl (fun v2 h1 hq => ?_)
  obtain ⟨rfl, M1, hy1, hl1, fr_1⟩ := hq
  have g3 := fr_1 _ _ (gnc (g_neL hvals hmany (by decide)) gn0) hvals
  have g4 := fr_1 _ _ (gnc (g_neA hm hmany) gn0) hm
  refine v_callV (pc' := 36) (rt := none) (mcc := 0) (msc := 0) (As := [.int (nI 3), .int a]) (st := []) F (fun l => c_X7_ahead G z0 l (L := 3) a g4 g3 hy1 hl1 (by omega) (by simp [va_up, q2, q3, q4, q5]; omega)) gX7_isStep_X7_ahead rfl hv_X7_ahead (by decide) (by decide) g4 rfl rfl rfl (Nat.le_of_ble_eq_true rfl) (by omega) (by omega) dX7_isStep_33 rfl (fun v6 h5 hq => ?_)
  obtain ⟨rfl, V2, M2, hv2, hy2, hl2, fr_2⟩ := hq
  refine v_aload_n (pc' := 37) F dX7_isStep_36 rfl (j := 0) rfl rfl ?_
  refine v_iconst (pc' := 38) (v := nI 5) F dX7_isStep_37 (by decide) rfl ?_
  refine v_aload_n (pc' := 39) F dX7_isStep_38 rfl (j := 0) rfl rfl ?_
  refine v_iconst (pc' := 40) (v := nI 4) F dX7_isStep_39 (by decide) rfl ?_
  have g7 := fr_2 _ _ (gnc (g_neA g4 g3) (gnc (g_neA g4 hy1) gn0)) g4
  refine v_callV (pc' := 43) (rt := (some .int)) (mcc := 0) (msc := 0) (As := [.int (nI 4)]) (st := [.int (nI 5), .ref m]) F (fun l => c_X7_takes G z0 l (L := 4) (x := b) (xs := oR) g7 hv2 hy2 hl2 (by omega) (by simp [va_up, q2, q3, q4, q5])) gX7_isStep_X7_takes rfl hv_X7_takes (by decide) (by decide) g7 rfl rfl rfl (Nat.le_of_ble_eq_true rfl) (by omega) (by omega) dX7_isStep_40 rfl (fun v9 h8 hq => ?_)
  obtain ⟨rfl, M3, hy3, hl3, fr_3⟩ := hq
  have g10 := fr_3 _ _ (gnc (g_neL hvals hmany (by decide)) gn0) hv2
  have g11 := fr_3 _ _ (gnc (g_neA g7 hy2) gn0) g7
  refine v_callV (pc' := 46) (rt := none) (mcc := 0) (msc := 0) (As := [.int (nI 5), .int b]) (st := []) F (fun l => c_X7_ahead G z0 l (L := 5) b g11 g10 hy3 hl3 (by omega) (by simp [va_up, q2, q3, q4, q5]; omega)) gX7_isStep_X7_ahead rfl hv_X7_ahead (by decide) (by decide) g11 rfl rfl rfl (Nat.le_of_ble_eq_true rfl) (by omega) (by omega) dX7_isStep_43 rfl (fun v13 h12 hq => ?_)
  obtain ⟨rfl, V4, M4, hv4, hy4, hl4, fr_4⟩ := hq
  refine v_aload_n (pc' := 47) F dX7_isStep_46 rfl (j := 0) rfl rfl ?_
  refine v_dup (pc' := 48) F dX7_isStep_47 rfl rfl ?_
  have g14 := fr_4 _ _ (gnc (g_neA g11 g10) (gnc (g_neA g11 hy3) gn0)) g11
  refine v_getf (pc' := 51) (v := .int (nI ok)) F k_X7_isStep_7 g14 10 (by decide) m_X7_isStep_f82 rfl dX7_isStep_48 rfl ?_
  refine v_iconst (pc' := 52) (v := nI 1) F dX7_isStep_51 (by decide) rfl ?_
  refine v_iadd (pc' := 53) (v := nI (ok + 1)) F dX7_isStep_52 (nI_add ok 1) rfl ?_
  refine w_putf (pc' := 56) F k_X7_isStep_7 tyX7_ok nmX7 g14 10 (by decide) m_X7_isStep_f82 rfl  rfl rfl (show 10 < 26 by decide) [.int th, .ref rows, .ref asd, .int now, .int und, .ref vals, .ref many, .int fl, .int rl, .int (nI 1), .int (nI (ok + 1)), .int st, .ref way, .int wm, .ref told, .ref oth, .ref lst, .ref text, .int fed, .int len, .int spot, .int fa, .int fat, .int num, .int frm, .int may] rfl dX7_isStep_53 rfl (fun h15 a16 f17 => ?_)
  refine v_iconst (pc' := 57) (v := nI 1) F dX7_isStep_56 (by decide) rfl ?_
  have fr18 : gfr [m, vals, many] h h15 := (gfr.t (gfr.mono fr_1 (by intro q9 z9 m9; apply z9; simp only [List.mem_cons, List.not_mem_nil, or_false] at m9 ⊢; omega)) (gfr.t (gfr.mono fr_2 (by intro q9 z9 m9; apply z9; simp only [List.mem_cons, List.not_mem_nil, or_false] at m9 ⊢; omega)) (gfr.t (gfr.mono fr_3 (by intro q9 z9 m9; apply z9; simp only [List.mem_cons, List.not_mem_nil, or_false] at m9 ⊢; omega)) (gfr.t (gfr.mono fr_4 (by intro q9 z9 m9; apply z9; simp only [List.mem_cons, List.not_mem_nil, or_false] at m9 ⊢; omega)) (gfr.mono f17 (by intro q9 z9 m9; apply z9; simp only [List.mem_cons, List.not_mem_nil, or_false] at m9 ⊢; omega))))))
  have g19 := f17 _ _ (gnc (Ne.symm (g_neA g14 hv4)) gn0) hv4
  have g20 := f17 _ _ (gnc (Ne.symm (g_neA g14 hy4)) gn0) hy4
  refine v_zret F E (by omega) (by omega) (by decide) dX7_isStep_57 ?_
  exact ⟨rfl, a16, _, _, _, g19, g20, hl4, ⟨by simp [va_up, q0], by simp [va_up, q1], by simp [va_up, q2, q3, q4, q5], fun _ => by simp [va_up, q2, q3, q4, q5], by simp [va_up, q2, q3, q4, q5], by simp [va_up, q2, q3, q4, q5]⟩, fr18⟩
set_option maxHeartbeats 4000000 in
set_option maxRecDepth 100000 in
theorem c_X7_isStep_b (G : gG) (z0 : Nat) (l : Launch) {h : gH} {m rows asd vals many  way told oth lst text : Nat} {th now und fl rl st wm fed len spot fa fat num frm may : Int32} {V M : Nat → Int32} {ls : Nat → List Int32} {f r : List Int32} {ok : Nat} {b : Int32} {nF nR : List Int32} (hm : h m = some (.inr (7, [.int th, .ref rows, .ref asd, .int now, .int und, .ref vals, .ref many, .int fl, .int rl, .int (nI 1), .int (nI ok), .int st, .ref way, .int wm, .ref told, .ref oth, .ref lst, .ref text, .int fed, .int len, .int spot, .int fa, .int fat, .int num, .int frm, .int may]))) (hvals : h vals = some (oI G 384 V)) (hmany : h many = some (oI G 6 M)) (hls : mdL V M ls) (hT : mdT ls f r (1, ok, [], nF, [b], nR)) (hn2 : nR.length < 64) : gC G z0 l yX7_isStep wsX7_isStep 1 22 [.ref m] h (fun v h' => v = some (.int (nI 1)) ∧ h' m = some (.inr (7, [.int th, .ref rows, .ref asd, .int now, .int und, .ref vals, .ref many, .int fl, .int rl, .int (nI 2), .int (nI ok), .int st, .ref way, .int wm, .ref told, .ref oth, .ref lst, .ref text, .int fed, .int len, .int spot, .int fa, .int fat, .int num, .int frm, .int may])) ∧ ∃ V' M' ls', h' vals = some (oI G 384 V') ∧ h' many = some (oI G 6 M') ∧ mdL V' M' ls' ∧ mdT ls' f r (2, ok, [], nF, [], b :: nR) ∧ gfr [m, vals, many] h h') 0 0 := by
  refine gC_of (cc := cX7_isStep) (nL := 1) (ret := (some .boolean)) (by decide) rfl (Nat.le_of_ble_eq_true rfl) ?_
  intro X F E _
  change gF G z0 X cX7_isStep 1 RX7 wsX7_isStep (some .boolean) "isStep" 1 22 _ _ at F
  show gV G z0 X 0 0 h 0 [(0, .ref m)] []
  obtain ⟨q0, q1, q2, q3, q4, q5⟩ := hT
  simp only at q2 q3 q4 q5
  replace q3 := q3 (by decide)
  refine v_aload_n (pc' := 1) F dX7_isStep_0 rfl (j := 0) rfl rfl ?_
  refine v_getf (pc' := 4) (v := .int (nI 1)) F k_X7_isStep_7 hm 9 (by decide) m_X7_isStep_f79 rfl dX7_isStep_1 rfl ?_
  refine v_iconst (pc' := 5) (v := nI 1) F dX7_isStep_4 (by decide) rfl ?_
  refine w_icmp_ne (tgt := 58) (pc' := 8) F (by omega) (by omega) dX7_isStep_5 (by decide) rfl (fun c0 => absurd c0 (by omega)) (fun _ => ?_)
  refine v_aload_n (pc' := 9) F dX7_isStep_8 rfl (j := 0) rfl rfl ?_
  refine v_getf (pc' := 12) (v := .ref many) F k_X7_isStep_7 hm 6 (by decide) m_X7_isStep_f19 rfl dX7_isStep_9 rfl ?_
  refine v_iconst (pc' := 13) (v := nI 2) F dX7_isStep_12 (by decide) rfl ?_
  refine w_iald (pc' := 14) (v := nI 0) F hmany (by omega) (by omega) (by have := (hls 2 (by omega)).1; rw [this, q2]; first | rfl | simp) dX7_isStep_13 rfl ?_
  refine w_if_le (tgt := 58) (pc' := 17) F (by omega) dX7_isStep_14 (by decide) rfl (fun _ => ?_) (fun c0 => absurd c0 (by omega))
  refine v_aload_n (pc' := 59) F dX7_isStep_58 rfl (j := 0) rfl rfl ?_
  refine v_getf (pc' := 62) (v := .int (nI 1)) F k_X7_isStep_7 hm 9 (by decide) m_X7_isStep_f79 rfl dX7_isStep_59 rfl ?_
  refine v_iconst (pc' := 63) (v := nI 1) F dX7_isStep_62 (by decide) rfl ?_
  refine w_icmp_ne (tgt := 102) (pc' := 66) F (by omega) (by omega) dX7_isStep_63 (by decide) rfl (fun c0 => absurd c0 (by omega)) (fun _ => ?_)
  refine v_aload_n (pc' := 67) F dX7_isStep_66 rfl (j := 0) rfl rfl ?_
  refine v_getf (pc' := 70) (v := .ref many) F k_X7_isStep_7 hm 6 (by decide) m_X7_isStep_f19 rfl dX7_isStep_67 rfl ?_
  refine v_iconst (pc' := 71) (v := nI 2) F dX7_isStep_70 (by decide) rfl ?_
  refine w_iald (pc' := 72) (v := nI 0) F hmany (by omega) (by omega) (by have := (hls 2 (by omega)).1; rw [this, q2]; first | rfl | simp) dX7_isStep_71 rfl ?_
  refine w_if_ne (tgt := 102) (pc' := 75) F (by omega) dX7_isStep_72 (by decide) rfl (fun c0 => absurd c0 (by omega)) (fun _ => ?_)
  refine v_aload_n (pc' := 76) F dX7_isStep_75 rfl (j := 0) rfl rfl ?_
  refine v_getf (pc' := 79) (v := .ref many) F k_X7_isStep_7 hm 6 (by decide) m_X7_isStep_f19 rfl dX7_isStep_76 rfl ?_
  refine v_iconst (pc' := 80) (v := nI 4) F dX7_isStep_79 (by decide) rfl ?_
  refine w_iald (pc' := 81) (v := nI 1) F hmany (by omega) (by omega) (by have := (hls 4 (by omega)).1; rw [this, q4]; first | rfl | simp) dX7_isStep_80 rfl ?_
  refine v_iconst (pc' := 82) (v := nI 1) F dX7_isStep_81 (by decide) rfl ?_
  refine w_icmp_ne (tgt := 102) (pc' := 85) F (by omega) (by omega) dX7_isStep_82 (by decide) rfl (fun c0 => absurd c0 (by omega)) (fun _ => ?_)
  refine v_aload_n (pc' := 86) F dX7_isStep_85 rfl (j := 0) rfl rfl ?_
  refine v_iconst (pc' := 87) (v := nI 5) F dX7_isStep_86 (by decide) rfl ?_
  refine v_aload_n (pc' := 88) F dX7_isStep_87 rfl (j := 0) rfl rfl ?_
  refine v_iconst (pc' := 89) (v := nI 4) F dX7_isStep_88 (by decide) rfl ?_
  refine v_callV (pc' := 92) (rt := (some .int)) (mcc := 0) (msc := 0) (As := [.int (nI 4)]) (st := [.int (nI 5), .ref m]) F (fun l => c_X7_takes G z0 l (L := 4) (x := b) (xs := []) hm hvals hmany hls (by omega) (by simp [va_up, q2, q3, q4, q5])) gX7_isStep_X7_takes rfl hv_X7_takes (by decide) (by decide) hm rfl rfl rfl (Nat.le_of_ble_eq_true rfl) (by omega) (by omega) dX7_isStep_89 rfl (fun v2 h1 hq => ?_)
  obtain ⟨rfl, M1, hy1, hl1, fr_1⟩ := hq
  have g3 := fr_1 _ _ (gnc (g_neL hvals hmany (by decide)) gn0) hvals
  have g4 := fr_1 _ _ (gnc (g_neA hm hmany) gn0) hm
  refine v_callV (pc' := 95) (rt := none) (mcc := 0) (msc := 0) (As := [.int (nI 5), .int b]) (st := []) F (fun l => c_X7_ahead G z0 l (L := 5) b g4 g3 hy1 hl1 (by omega) (by simp [va_up, q2, q3, q4, q5]; omega)) gX7_isStep_X7_ahead rfl hv_X7_ahead (by decide) (by decide) g4 rfl rfl rfl (Nat.le_of_ble_eq_true rfl) (by omega) (by omega) dX7_isStep_92 rfl (fun v6 h5 hq => ?_)
  obtain ⟨rfl, V2, M2, hv2, hy2, hl2, fr_2⟩ := hq
  refine v_aload_n (pc' := 96) F dX7_isStep_95 rfl (j := 0) rfl rfl ?_
  refine v_iconst (pc' := 97) (v := nI 2) F dX7_isStep_96 (by decide) rfl ?_
  have g7 := fr_2 _ _ (gnc (g_neA g4 g3) (gnc (g_neA g4 hy1) gn0)) g4
  refine w_putf (pc' := 100) F k_X7_isStep_7 tyX7_ok nmX7 g7 9 (by decide) m_X7_isStep_f79 rfl  rfl rfl (show 9 < 26 by decide) [.int th, .ref rows, .ref asd, .int now, .int und, .ref vals, .ref many, .int fl, .int rl, .int (nI 2), .int (nI ok), .int st, .ref way, .int wm, .ref told, .ref oth, .ref lst, .ref text, .int fed, .int len, .int spot, .int fa, .int fat, .int num, .int frm, .int may] rfl dX7_isStep_97 rfl (fun h8 a9 f10 => ?_)
  refine v_iconst (pc' := 101) (v := nI 1) F dX7_isStep_100 (by decide) rfl ?_
  have fr11 : gfr [m, vals, many] h h8 := (gfr.t (gfr.mono fr_1 (by intro q9 z9 m9; apply z9; simp only [List.mem_cons, List.not_mem_nil, or_false] at m9 ⊢; omega)) (gfr.t (gfr.mono fr_2 (by intro q9 z9 m9; apply z9; simp only [List.mem_cons, List.not_mem_nil, or_false] at m9 ⊢; omega)) (gfr.mono f10 (by intro q9 z9 m9; apply z9; simp only [List.mem_cons, List.not_mem_nil, or_false] at m9 ⊢; omega))))
  have g12 := f10 _ _ (gnc (Ne.symm (g_neA g7 hv2)) gn0) hv2
  have g13 := f10 _ _ (gnc (Ne.symm (g_neA g7 hy2)) gn0) hy2
  refine v_zret F E (by omega) (by omega) (by decide) dX7_isStep_101 ?_
  exact ⟨rfl, a9, _, _, _, g12, g13, hl2, ⟨by simp [va_up, q0], by simp [va_up, q1], by simp [va_up, q2, q3, q4, q5], fun _ => by simp [va_up, q2, q3, q4, q5], by simp [va_up, q2, q3, q4, q5], by simp [va_up, q2, q3, q4, q5]⟩, fr11⟩
set_option maxHeartbeats 4000000 in
set_option maxRecDepth 100000 in
theorem c_X7_isStep_c (G : gG) (z0 : Nat) (l : Launch) {h : gH} {m rows asd vals many  way told oth lst text : Nat} {th now und fl rl st wm fed len spot fa fat num frm may : Int32} {V M : Nat → Int32} {ls : Nat → List Int32} {f r : List Int32} {oF nF oR nR : List Int32} (hm : h m = some (.inr (7, [.int th, .ref rows, .ref asd, .int now, .int und, .ref vals, .ref many, .int fl, .int rl, .int (nI 2), .int (nI 0), .int st, .ref way, .int wm, .ref told, .ref oth, .ref lst, .ref text, .int fed, .int len, .int spot, .int fa, .int fat, .int num, .int frm, .int may]))) (hvals : h vals = some (oI G 384 V)) (hmany : h many = some (oI G 6 M)) (hls : mdL V M ls) (hT : mdT ls f r (2, 0, oF, nF, oR, nR))  : gC G z0 l yX7_isStep wsX7_isStep 1 22 [.ref m] h (fun v h' => v = some (.int (nI 1)) ∧ h' m = some (.inr (7, [.int th, .ref rows, .ref asd, .int now, .int und, .ref vals, .ref many, .int fl, .int rl, .int (nI 3), .int (nI 0), .int st, .ref way, .int wm, .ref told, .ref oth, .ref lst, .ref text, .int fed, .int len, .int spot, .int fa, .int fat, .int num, .int frm, .int may])) ∧ ∃ V' M' ls', h' vals = some (oI G 384 V') ∧ h' many = some (oI G 6 M') ∧ mdL V' M' ls' ∧ mdT ls' f r (3, 0, oF, [], oR, nR) ∧ gfr [m, vals, many] h h') 0 0 := by
  refine gC_of (cc := cX7_isStep) (nL := 1) (ret := (some .boolean)) (by decide) rfl (Nat.le_of_ble_eq_true rfl) ?_
  intro X F E _
  change gF G z0 X cX7_isStep 1 RX7 wsX7_isStep (some .boolean) "isStep" 1 22 _ _ at F
  show gV G z0 X 0 0 h 0 [(0, .ref m)] []
  obtain ⟨q0, q1, q2, q3, q4, q5⟩ := hT
  simp only at q2 q3 q4 q5
  replace q3 := q3 (by decide)
  refine v_aload_n (pc' := 1) F dX7_isStep_0 rfl (j := 0) rfl rfl ?_
  refine v_getf (pc' := 4) (v := .int (nI 2)) F k_X7_isStep_7 hm 9 (by decide) m_X7_isStep_f79 rfl dX7_isStep_1 rfl ?_
  refine v_iconst (pc' := 5) (v := nI 1) F dX7_isStep_4 (by decide) rfl ?_
  refine w_icmp_ne (tgt := 58) (pc' := 8) F (by omega) (by omega) dX7_isStep_5 (by decide) rfl (fun _ => ?_) (fun c0 => absurd c0 (by omega))
  refine v_aload_n (pc' := 59) F dX7_isStep_58 rfl (j := 0) rfl rfl ?_
  refine v_getf (pc' := 62) (v := .int (nI 2)) F k_X7_isStep_7 hm 9 (by decide) m_X7_isStep_f79 rfl dX7_isStep_59 rfl ?_
  refine v_iconst (pc' := 63) (v := nI 1) F dX7_isStep_62 (by decide) rfl ?_
  refine w_icmp_ne (tgt := 102) (pc' := 66) F (by omega) (by omega) dX7_isStep_63 (by decide) rfl (fun _ => ?_) (fun c0 => absurd c0 (by omega))
  refine v_aload_n (pc' := 103) F dX7_isStep_102 rfl (j := 0) rfl rfl ?_
  refine v_getf (pc' := 106) (v := .int (nI 2)) F k_X7_isStep_7 hm 9 (by decide) m_X7_isStep_f79 rfl dX7_isStep_103 rfl ?_
  refine v_iconst (pc' := 107) (v := nI 2) F dX7_isStep_106 (by decide) rfl ?_
  refine w_icmp_eq (tgt := 112) (pc' := 110) F (by omega) (by omega) dX7_isStep_107 (by decide) rfl (fun _ => ?_) (fun c0 => absurd c0 (by omega))
  refine v_aload_n (pc' := 113) F dX7_isStep_112 rfl (j := 0) rfl rfl ?_
  refine v_getf (pc' := 116) (v := .int (nI 0)) F k_X7_isStep_7 hm 10 (by decide) m_X7_isStep_f82 rfl dX7_isStep_113 rfl ?_
  refine w_if_ne (tgt := 127) (pc' := 119) F (by omega) dX7_isStep_116 (by decide) rfl (fun c0 => absurd c0 (by omega)) (fun _ => ?_)
  refine v_aload_n (pc' := 120) F dX7_isStep_119 rfl (j := 0) rfl rfl ?_
  refine v_iconst (pc' := 121) (v := nI 3) F dX7_isStep_120 (by decide) rfl ?_
  refine w_putf (pc' := 124) F k_X7_isStep_7 tyX7_ok nmX7 hm 9 (by decide) m_X7_isStep_f79 rfl  rfl rfl (show 9 < 26 by decide) [.int th, .ref rows, .ref asd, .int now, .int und, .ref vals, .ref many, .int fl, .int rl, .int (nI 3), .int (nI 0), .int st, .ref way, .int wm, .ref told, .ref oth, .ref lst, .ref text, .int fed, .int len, .int spot, .int fa, .int fat, .int num, .int frm, .int may] rfl dX7_isStep_121 rfl (fun h1 a2 f3 => ?_)
  refine v_goto (tgt := 147) F dX7_isStep_124 (by decide) ?_
  refine v_iconst (pc' := 148) (v := nI 1) F dX7_isStep_147 (by decide) rfl ?_
  have fr4 : gfr [m, vals, many] h h1 := (gfr.mono f3 (by intro q9 z9 m9; apply z9; simp only [List.mem_cons, List.not_mem_nil, or_false] at m9 ⊢; omega))
  have g5 := f3 _ _ (gnc (Ne.symm (g_neA hm hvals)) gn0) hvals
  have g6 := f3 _ _ (gnc (Ne.symm (g_neA hm hmany)) gn0) hmany
  refine v_zret F E (by omega) (by omega) (by decide) dX7_isStep_148 ?_
  exact ⟨rfl, a2, _, _, _, g5, g6, hls, ⟨by simp [va_up, q0], by simp [va_up, q1], by simp [va_up, q2, q3, q4, q5], fun z => absurd rfl z, by simp [va_up, q2, q3, q4, q5], by simp [va_up, q2, q3, q4, q5]⟩, fr4⟩
set_option maxHeartbeats 4000000 in
set_option maxRecDepth 100000 in
theorem c_X7_isStep_d (G : gG) (z0 : Nat) (l : Launch) {h : gH} {m rows asd vals many  way told oth lst text : Nat} {th now und fl rl st wm fed len spot fa fat num frm may : Int32} {V M : Nat → Int32} {ls : Nat → List Int32} {f r : List Int32} {ok : Nat} {a : Int32} {oF nF oR nR : List Int32} (hm : h m = some (.inr (7, [.int th, .ref rows, .ref asd, .int now, .int und, .ref vals, .ref many, .int fl, .int rl, .int (nI 2), .int (nI (ok + 1)), .int st, .ref way, .int wm, .ref told, .ref oth, .ref lst, .ref text, .int fed, .int len, .int spot, .int fa, .int fat, .int num, .int frm, .int may]))) (hvals : h vals = some (oI G 384 V)) (hmany : h many = some (oI G 6 M)) (hls : mdL V M ls) (hT : mdT ls f r (2, ok + 1, oF, a :: nF, oR, nR)) (hn1 : nF.length < 64) (hn2 : nR.length < 64) (hok : ok < 1000) : gC G z0 l yX7_isStep wsX7_isStep 1 22 [.ref m] h (fun v h' => v = some (.int (nI 1)) ∧ h' m = some (.inr (7, [.int th, .ref rows, .ref asd, .int now, .int und, .ref vals, .ref many, .int fl, .int rl, .int (nI 2), .int (nI ok), .int st, .ref way, .int wm, .ref told, .ref oth, .ref lst, .ref text, .int fed, .int len, .int spot, .int fa, .int fat, .int num, .int frm, .int may])) ∧ ∃ V' M' ls', h' vals = some (oI G 384 V') ∧ h' many = some (oI G 6 M') ∧ mdL V' M' ls' ∧ mdT ls' f r (2, ok, oF, nF, oR, a :: nR) ∧ gfr [m, vals, many] h h') 0 0 := by
  refine gC_of (cc := cX7_isStep) (nL := 1) (ret := (some .boolean)) (by decide) rfl (Nat.le_of_ble_eq_true rfl) ?_
  intro X F E _
  change gF G z0 X cX7_isStep 1 RX7 wsX7_isStep (some .boolean) "isStep" 1 22 _ _ at F
  show gV G z0 X 0 0 h 0 [(0, .ref m)] []
  obtain ⟨q0, q1, q2, q3, q4, q5⟩ := hT
  simp only at q2 q3 q4 q5
  replace q3 := q3 (by decide)
  refine v_aload_n (pc' := 1) F dX7_isStep_0 rfl (j := 0) rfl rfl ?_
  refine v_getf (pc' := 4) (v := .int (nI 2)) F k_X7_isStep_7 hm 9 (by decide) m_X7_isStep_f79 rfl dX7_isStep_1 rfl ?_
  refine v_iconst (pc' := 5) (v := nI 1) F dX7_isStep_4 (by decide) rfl ?_
  refine w_icmp_ne (tgt := 58) (pc' := 8) F (by omega) (by omega) dX7_isStep_5 (by decide) rfl (fun _ => ?_) (fun c0 => absurd c0 (by omega))
  refine v_aload_n (pc' := 59) F dX7_isStep_58 rfl (j := 0) rfl rfl ?_
  refine v_getf (pc' := 62) (v := .int (nI 2)) F k_X7_isStep_7 hm 9 (by decide) m_X7_isStep_f79 rfl dX7_isStep_59 rfl ?_
  refine v_iconst (pc' := 63) (v := nI 1) F dX7_isStep_62 (by decide) rfl ?_
  refine w_icmp_ne (tgt := 102) (pc' := 66) F (by omega) (by omega) dX7_isStep_63 (by decide) rfl (fun _ => ?_) (fun c0 => absurd c0 (by omega))
  refine v_aload_n (pc' := 103) F dX7_isStep_102 rfl (j := 0) rfl rfl ?_
  refine v_getf (pc' := 106) (v := .int (nI 2)) F k_X7_isStep_7 hm 9 (by decide) m_X7_isStep_f79 rfl dX7_isStep_103 rfl ?_
  refine v_iconst (pc' := 107) (v := nI 2) F dX7_isStep_106 (by decide) rfl ?_
  refine w_icmp_eq (tgt := 112) (pc' := 110) F (by omega) (by omega) dX7_isStep_107 (by decide) rfl (fun _ => ?_) (fun c0 => absurd c0 (by omega))
  refine v_aload_n (pc' := 113) F dX7_isStep_112 rfl (j := 0) rfl rfl ?_
  refine v_getf (pc' := 116) (v := .int (nI (ok + 1))) F k_X7_isStep_7 hm 10 (by decide) m_X7_isStep_f82 rfl dX7_isStep_113 rfl ?_
  refine w_if_ne (tgt := 127) (pc' := 119) F (by omega) dX7_isStep_116 (by decide) rfl (fun _ => ?_) (fun c0 => absurd c0 (by omega))
  refine v_aload_n (pc' := 128) F dX7_isStep_127 rfl (j := 0) rfl rfl ?_
  refine v_iconst (pc' := 129) (v := nI 5) F dX7_isStep_128 (by decide) rfl ?_
  refine v_aload_n (pc' := 130) F dX7_isStep_129 rfl (j := 0) rfl rfl ?_
  refine v_iconst (pc' := 131) (v := nI 3) F dX7_isStep_130 (by decide) rfl ?_
  refine v_callV (pc' := 134) (rt := (some .int)) (mcc := 0) (msc := 0) (As := [.int (nI 3)]) (st := [.int (nI 5), .ref m]) F (fun l => c_X7_takes G z0 l (L := 3) (x := a) (xs := nF) hm hvals hmany hls (by omega) (by simp [va_up, q2, q3, q4, q5])) gX7_isStep_X7_takes rfl hv_X7_takes (by decide) (by decide) hm rfl rfl rfl (Nat.le_of_ble_eq_true rfl) (by omega) (by omega) dX7_isStep_131 rfl (fun v2 h1 hq => ?_)
  obtain ⟨rfl, M1, hy1, hl1, fr_1⟩ := hq
  have g3 := fr_1 _ _ (gnc (g_neL hvals hmany (by decide)) gn0) hvals
  have g4 := fr_1 _ _ (gnc (g_neA hm hmany) gn0) hm
  refine v_callV (pc' := 137) (rt := none) (mcc := 0) (msc := 0) (As := [.int (nI 5), .int a]) (st := []) F (fun l => c_X7_ahead G z0 l (L := 5) a g4 g3 hy1 hl1 (by omega) (by simp [va_up, q2, q3, q4, q5]; omega)) gX7_isStep_X7_ahead rfl hv_X7_ahead (by decide) (by decide) g4 rfl rfl rfl (Nat.le_of_ble_eq_true rfl) (by omega) (by omega) dX7_isStep_134 rfl (fun v6 h5 hq => ?_)
  obtain ⟨rfl, V2, M2, hv2, hy2, hl2, fr_2⟩ := hq
  refine v_aload_n (pc' := 138) F dX7_isStep_137 rfl (j := 0) rfl rfl ?_
  refine v_dup (pc' := 139) F dX7_isStep_138 rfl rfl ?_
  have g7 := fr_2 _ _ (gnc (g_neA g4 g3) (gnc (g_neA g4 hy1) gn0)) g4
  refine v_getf (pc' := 142) (v := .int (nI (ok + 1))) F k_X7_isStep_7 g7 10 (by decide) m_X7_isStep_f82 rfl dX7_isStep_139 rfl ?_
  refine v_iconst (pc' := 143) (v := nI 1) F dX7_isStep_142 (by decide) rfl ?_
  refine v_isub (pc' := 144) (v := nI ok) F dX7_isStep_143 (g_subn (by omega) (by omega)) rfl ?_
  refine w_putf (pc' := 147) F k_X7_isStep_7 tyX7_ok nmX7 g7 10 (by decide) m_X7_isStep_f82 rfl  rfl rfl (show 10 < 26 by decide) [.int th, .ref rows, .ref asd, .int now, .int und, .ref vals, .ref many, .int fl, .int rl, .int (nI 2), .int (nI ok), .int st, .ref way, .int wm, .ref told, .ref oth, .ref lst, .ref text, .int fed, .int len, .int spot, .int fa, .int fat, .int num, .int frm, .int may] rfl dX7_isStep_144 rfl (fun h8 a9 f10 => ?_)
  refine v_iconst (pc' := 148) (v := nI 1) F dX7_isStep_147 (by decide) rfl ?_
  have fr11 : gfr [m, vals, many] h h8 := (gfr.t (gfr.mono fr_1 (by intro q9 z9 m9; apply z9; simp only [List.mem_cons, List.not_mem_nil, or_false] at m9 ⊢; omega)) (gfr.t (gfr.mono fr_2 (by intro q9 z9 m9; apply z9; simp only [List.mem_cons, List.not_mem_nil, or_false] at m9 ⊢; omega)) (gfr.mono f10 (by intro q9 z9 m9; apply z9; simp only [List.mem_cons, List.not_mem_nil, or_false] at m9 ⊢; omega))))
  have g12 := f10 _ _ (gnc (Ne.symm (g_neA g7 hv2)) gn0) hv2
  have g13 := f10 _ _ (gnc (Ne.symm (g_neA g7 hy2)) gn0) hy2
  refine v_zret F E (by omega) (by omega) (by decide) dX7_isStep_148 ?_
  exact ⟨rfl, a9, _, _, _, g12, g13, hl2, ⟨by simp [va_up, q0], by simp [va_up, q1], by simp [va_up, q2, q3, q4, q5], fun _ => by simp [va_up, q2, q3, q4, q5], by simp [va_up, q2, q3, q4, q5], by simp [va_up, q2, q3, q4, q5]⟩, fr11⟩
set_option maxHeartbeats 4000000 in
set_option maxRecDepth 100000 in
theorem c_X7_isStep_n0 (G : gG) (z0 : Nat) (l : Launch) {h : gH} {m rows asd vals many  way told oth lst text : Nat} {th now und fl rl ok st wm fed len spot fa fat num frm may : Int32} (hm : h m = some (.inr (7, [.int th, .ref rows, .ref asd, .int now, .int und, .ref vals, .ref many, .int fl, .int rl, .int (nI 0), .int ok, .int st, .ref way, .int wm, .ref told, .ref oth, .ref lst, .ref text, .int fed, .int len, .int spot, .int fa, .int fat, .int num, .int frm, .int may]))) : gC G z0 l yX7_isStep wsX7_isStep 1 22 [.ref m] h (fun v h' => v = some (.int (nI 0)) ∧ h' = h) 0 0 := by
  refine gC_of (cc := cX7_isStep) (nL := 1) (ret := (some .boolean)) (by decide) rfl (Nat.le_of_ble_eq_true rfl) ?_
  intro X F E _
  change gF G z0 X cX7_isStep 1 RX7 wsX7_isStep (some .boolean) "isStep" 1 22 _ _ at F
  show gV G z0 X 0 0 h 0 [(0, .ref m)] []
  refine v_aload_n (pc' := 1) F dX7_isStep_0 rfl (j := 0) rfl rfl ?_
  refine v_getf (pc' := 4) (v := .int (nI 0)) F k_X7_isStep_7 hm 9 (by decide) m_X7_isStep_f79 rfl dX7_isStep_1 rfl ?_
  refine v_iconst (pc' := 5) (v := nI 1) F dX7_isStep_4 (by decide) rfl ?_
  refine w_icmp_ne (tgt := 58) (pc' := 8) F (by omega) (by omega) dX7_isStep_5 (by decide) rfl (fun _ => ?_) (fun c0 => absurd c0 (by omega))
  refine v_aload_n (pc' := 59) F dX7_isStep_58 rfl (j := 0) rfl rfl ?_
  refine v_getf (pc' := 62) (v := .int (nI 0)) F k_X7_isStep_7 hm 9 (by decide) m_X7_isStep_f79 rfl dX7_isStep_59 rfl ?_
  refine v_iconst (pc' := 63) (v := nI 1) F dX7_isStep_62 (by decide) rfl ?_
  refine w_icmp_ne (tgt := 102) (pc' := 66) F (by omega) (by omega) dX7_isStep_63 (by decide) rfl (fun _ => ?_) (fun c0 => absurd c0 (by omega))
  refine v_aload_n (pc' := 103) F dX7_isStep_102 rfl (j := 0) rfl rfl ?_
  refine v_getf (pc' := 106) (v := .int (nI 0)) F k_X7_isStep_7 hm 9 (by decide) m_X7_isStep_f79 rfl dX7_isStep_103 rfl ?_
  refine v_iconst (pc' := 107) (v := nI 2) F dX7_isStep_106 (by decide) rfl ?_
  refine w_icmp_eq (tgt := 112) (pc' := 110) F (by omega) (by omega) dX7_isStep_107 (by decide) rfl (fun c0 => absurd c0 (by omega)) (fun _ => ?_)
  refine v_iconst (pc' := 111) (v := nI 0) F dX7_isStep_110 (by decide) rfl ?_
  refine v_zret F E (by omega) (by omega) (by decide) dX7_isStep_111 ?_
  exact ⟨rfl, rfl⟩
set_option maxHeartbeats 4000000 in
set_option maxRecDepth 100000 in
theorem c_X7_isStep_n3 (G : gG) (z0 : Nat) (l : Launch) {h : gH} {m rows asd vals many  way told oth lst text : Nat} {th now und fl rl ok st wm fed len spot fa fat num frm may : Int32} (hm : h m = some (.inr (7, [.int th, .ref rows, .ref asd, .int now, .int und, .ref vals, .ref many, .int fl, .int rl, .int (nI 3), .int ok, .int st, .ref way, .int wm, .ref told, .ref oth, .ref lst, .ref text, .int fed, .int len, .int spot, .int fa, .int fat, .int num, .int frm, .int may]))) : gC G z0 l yX7_isStep wsX7_isStep 1 22 [.ref m] h (fun v h' => v = some (.int (nI 0)) ∧ h' = h) 0 0 := by
  refine gC_of (cc := cX7_isStep) (nL := 1) (ret := (some .boolean)) (by decide) rfl (Nat.le_of_ble_eq_true rfl) ?_
  intro X F E _
  change gF G z0 X cX7_isStep 1 RX7 wsX7_isStep (some .boolean) "isStep" 1 22 _ _ at F
  show gV G z0 X 0 0 h 0 [(0, .ref m)] []
  refine v_aload_n (pc' := 1) F dX7_isStep_0 rfl (j := 0) rfl rfl ?_
  refine v_getf (pc' := 4) (v := .int (nI 3)) F k_X7_isStep_7 hm 9 (by decide) m_X7_isStep_f79 rfl dX7_isStep_1 rfl ?_
  refine v_iconst (pc' := 5) (v := nI 1) F dX7_isStep_4 (by decide) rfl ?_
  refine w_icmp_ne (tgt := 58) (pc' := 8) F (by omega) (by omega) dX7_isStep_5 (by decide) rfl (fun _ => ?_) (fun c0 => absurd c0 (by omega))
  refine v_aload_n (pc' := 59) F dX7_isStep_58 rfl (j := 0) rfl rfl ?_
  refine v_getf (pc' := 62) (v := .int (nI 3)) F k_X7_isStep_7 hm 9 (by decide) m_X7_isStep_f79 rfl dX7_isStep_59 rfl ?_
  refine v_iconst (pc' := 63) (v := nI 1) F dX7_isStep_62 (by decide) rfl ?_
  refine w_icmp_ne (tgt := 102) (pc' := 66) F (by omega) (by omega) dX7_isStep_63 (by decide) rfl (fun _ => ?_) (fun c0 => absurd c0 (by omega))
  refine v_aload_n (pc' := 103) F dX7_isStep_102 rfl (j := 0) rfl rfl ?_
  refine v_getf (pc' := 106) (v := .int (nI 3)) F k_X7_isStep_7 hm 9 (by decide) m_X7_isStep_f79 rfl dX7_isStep_103 rfl ?_
  refine v_iconst (pc' := 107) (v := nI 2) F dX7_isStep_106 (by decide) rfl ?_
  refine w_icmp_eq (tgt := 112) (pc' := 110) F (by omega) (by omega) dX7_isStep_107 (by decide) rfl (fun c0 => absurd c0 (by omega)) (fun _ => ?_)
  refine v_iconst (pc' := 111) (v := nI 0) F dX7_isStep_110 (by decide) rfl ?_
  refine v_zret F E (by omega) (by omega) (by decide) dX7_isStep_111 ?_
  exact ⟨rfl, rfl⟩

theorem mdL.clear {V M : Nat → Int32} {ls : Nat → List Int32} (h : mdL V M ls) (L : Nat) : mdL V (upd M L (nI 0)) (va_up ls L []) := fun K hK => by
  obtain ⟨h1, h2, h3⟩ := h K hK
  by_cases e : K = L
  · subst e
    have e1 : va_up ls K [] K = [] := by unfold va_up; rw [if_pos rfl]
    rw [e1, upd_eq]
    exact ⟨rfl, Nat.zero_le _, fun j hj => absurd hj (by simp)⟩
  · have e1 : va_up ls L [] K = ls K := by unfold va_up; rw [if_neg e]
    rw [e1, upd_ne e]
    exact ⟨h1, h2, h3⟩
theorem m_X7_settles_f79 : Cond.fieldLink RX7 79 "SteadyQueuesModel" "kind" "I" ∈ wsX7_settles := by decide +kernel
theorem hv_X7_becomes : yX7_becomes.cls = RX7 ∧ yX7_becomes.cls ≠ "java/lang/invoke/MethodHandle" ∧ yX7_becomes.cls ≠ "java/lang/invoke/VarHandle" ∧ (parseMethodDescriptor yX7_becomes.desc).map (fun d => d.parameters.length) = some 2 := by decide +kernel
theorem m_X7_settles_f82 : Cond.fieldLink RX7 82 "SteadyQueuesModel" "ok" "I" ∈ wsX7_settles := by decide +kernel
theorem m_X7_settles_f19 : Cond.fieldLink RX7 19 "SteadyQueuesModel" "many" "[I" ∈ wsX7_settles := by decide +kernel
set_option maxHeartbeats 4000000 in
set_option maxRecDepth 100000 in
theorem lpE_X7_settles {G : gG} {z0 : Nat} {X : gX} {l : Launch} {post : Option Value → gH → Prop} {mc ms cells slots k p : Nat} {h : gH} {m rows asd vals many  way told oth lst text : Nat} {th now und fl rl wm fed len spot fa fat num frm may : Int32} {V M : Nat → Int32} {ls : Nat → List Int32} {f r : List Int32} {T : mT} (F : gF G z0 X cX7_settles 3 RX7 wsX7_settles none "settles" 2 42 mc ms) (E : gE G z0 X post mc ms) (hcc : cells ≤ mc) (hss : slots ≤ ms) (hm : h m = some (.inr (7, [.int th, .ref rows, .ref asd, .int now, .int und, .ref vals, .ref many, .int fl, .int rl, .int (nI T.1), .int (nI T.2.1), .int (nI k), .ref way, .int wm, .ref told, .ref oth, .ref lst, .ref text, .int fed, .int len, .int spot, .int fa, .int fat, .int num, .int frm, .int may]))) (hvals : h vals = some (oI G 384 V)) (hmany : h many = some (oI G 6 M)) (hls : mdL V M ls) (hT : mdT ls f r T) (hk4 : T.1 < 4) (hok : T.2.1 < 1000) (hp : T.1 = 3 → ∀ (h' : gH) (V' M' : Nat → Int32) (ls' : Nat → List Int32), h' m = some (.inr (7, [.int th, .ref rows, .ref asd, .int now, .int und, .ref vals, .ref many, .int fl, .int rl, .int (nI 0), .int (nI 0), .int (nI k), .ref way, .int wm, .ref told, .ref oth, .ref lst, .ref text, .int fed, .int len, .int spot, .int fa, .int fat, .int num, .int frm, .int may])) → h' vals = some (oI G 384 V') → h' many = some (oI G 6 M') → mdL V' M' ls' → mdT ls' T.2.2.2.2.2 r t0 → gfr [m, vals, many] h h' → post none h') (hp2 : T.1 ≠ 3 → ∀ (h' : gH) (V' M' : Nat → Int32) (ls' : Nat → List Int32), h' m = some (.inr (7, [.int th, .ref rows, .ref asd, .int now, .int und, .ref vals, .ref many, .int fl, .int rl, .int (nI T.1), .int (nI T.2.1), .int (nI k), .ref way, .int wm, .ref told, .ref oth, .ref lst, .ref text, .int fed, .int len, .int spot, .int fa, .int fat, .int num, .int frm, .int may])) → h' vals = some (oI G 384 V') → h' many = some (oI G 6 M') → mdL V' M' ls' → mdT ls' f r T → gfr [m, vals, many] h h' → post none h') : gV G z0 X cells slots h 105 [(1, .int (nI p)), (0, .ref m)] [] := by
  obtain ⟨kk, ok, oF, nF, oR, nR⟩ := T
  obtain ⟨q0, q1, q2, q3, q4, q5⟩ := hT
  simp only at q2 q3 q4 q5 hk4 hok
  refine v_aload_n (pc' := 106) F dX7_settles_105 rfl (j := 1) rfl rfl ?_
  refine v_getf (pc' := 109) (v := .int (nI kk)) F k_X7_settles_7 hm 9 (by decide) m_X7_settles_f79 rfl dX7_settles_106 rfl ?_
  refine v_iconst (pc' := 110) (v := nI 3) F dX7_settles_109 (by decide) rfl ?_
  refine w_icmp_eq (tgt := 114) (pc' := 113) F (by omega) (by omega) dX7_settles_110 (by decide) rfl (fun c0 => ?_) (fun c0 => ?_)
  · subst c0
    refine v_aload_n (pc' := 115) F dX7_settles_114 rfl (j := 1) rfl rfl ?_
    refine v_iconst (pc' := 116) (v := nI 0) F dX7_settles_115 (by decide) rfl ?_
    refine v_iconst (pc' := 117) (v := nI 5) F dX7_settles_116 (by decide) rfl ?_
    refine v_callV (pc' := 120) (rt := none) (mcc := 0) (msc := 0) (As := [.int (nI 0), .int (nI 5)]) (st := []) F (fun l => c_X7_becomes G z0 l (a := 0) (b := 5) hm hvals hmany hls (by omega) (by omega) (by omega)) gX7_settles_X7_becomes rfl hv_X7_becomes (by decide) (by decide) hm rfl rfl rfl (Nat.le_of_ble_eq_true rfl) (by omega) (by omega) dX7_settles_117 rfl (fun v2 h1 hq => ?_)
    obtain ⟨rfl, V9, M9, hvS, hyS, hlS, fS⟩ := hq
    refine v_aload_n (pc' := 121) F dX7_settles_120 rfl (j := 1) rfl rfl ?_
    refine v_iconst (pc' := 122) (v := nI 0) F dX7_settles_121 (by decide) rfl ?_
    have g3 := fS _ _ (gnc (g_neA hm hvals) (gnc (g_neA hm hmany) gn0)) hm
    refine w_putf (pc' := 125) F k_X7_settles_7 tyX7_ok nmX7 g3 9 (by decide) m_X7_settles_f79 rfl  rfl rfl (show 9 < 26 by decide) [.int th, .ref rows, .ref asd, .int now, .int und, .ref vals, .ref many, .int fl, .int rl, .int (nI 0), .int (nI ok), .int (nI k), .ref way, .int wm, .ref told, .ref oth, .ref lst, .ref text, .int fed, .int len, .int spot, .int fa, .int fat, .int num, .int frm, .int may] rfl dX7_settles_122 rfl (fun h4 a5 f6 => ?_)
    refine v_aload_n (pc' := 126) F dX7_settles_125 rfl (j := 1) rfl rfl ?_
    refine v_iconst (pc' := 127) (v := nI 0) F dX7_settles_126 (by decide) rfl ?_
    refine w_putf (pc' := 130) F k_X7_settles_7 tyX7_ok nmX7 a5 10 (by decide) m_X7_settles_f82 rfl  rfl rfl (show 10 < 26 by decide) [.int th, .ref rows, .ref asd, .int now, .int und, .ref vals, .ref many, .int fl, .int rl, .int (nI 0), .int (nI 0), .int (nI k), .ref way, .int wm, .ref told, .ref oth, .ref lst, .ref text, .int fed, .int len, .int spot, .int fa, .int fat, .int num, .int frm, .int may] rfl dX7_settles_127 rfl (fun h7 a8 f9 => ?_)
    refine v_iconst (pc' := 131) (v := nI 2) F dX7_settles_130 (by decide) rfl ?_
    refine v_istore_n (pc' := 132) (i := 2) (L' := [(2, .int (nI 2)), (1, .int (nI p)), (0, .ref m)]) F dX7_settles_131 rfl (by decide) rfl rfl ?_
    refine v_iload_n (pc' := 133) F dX7_settles_132 rfl (j := 0) rfl rfl ?_
    refine v_bipush (pc' := 135) (v := nI 6) F dX7_settles_133 (by decide) rfl ?_
    refine w_icmp_ge (tgt := 151) (pc' := 138) F (by omega) (by omega) dX7_settles_135 (by decide) rfl (fun c0 => absurd c0 (by omega)) (fun _ => ?_)
    refine v_aload_n (pc' := 139) F dX7_settles_138 rfl (j := 2) rfl rfl ?_
    refine v_getf (pc' := 142) (v := .ref many) F k_X7_settles_7 a8 6 (by decide) m_X7_settles_f19 rfl dX7_settles_139 rfl ?_
    refine v_iload_n (pc' := 143) F dX7_settles_142 rfl (j := 0) rfl rfl ?_
    refine v_iconst (pc' := 144) (v := nI 0) F dX7_settles_143 (by decide) rfl ?_
    have g10 := f6 _ _ (gnc (Ne.symm (g_neA g3 hyS)) gn0) hyS
    have g11 := f9 _ _ (gnc (Ne.symm (g_neA a5 g10)) gn0) g10
    refine w_iast (pc' := 145) F g11 (by omega) (by omega) dX7_settles_144 rfl (fun h12 a13 f14 => ?_)
    refine v_iinc (pc' := 148) (j := 0) (x := nI 2) (v := nI 3) (L' := [(2, .int (nI 3)), (1, .int (nI p)), (0, .ref m)]) F dX7_settles_145 rfl (g_eqn (nI_add 2 1) (by omega)) (by decide) rfl rfl ?_
    refine v_goto (tgt := 132) F dX7_settles_148 (by decide) ?_
    refine v_iload_n (pc' := 133) F dX7_settles_132 rfl (j := 0) rfl rfl ?_
    refine v_bipush (pc' := 135) (v := nI 6) F dX7_settles_133 (by decide) rfl ?_
    refine w_icmp_ge (tgt := 151) (pc' := 138) F (by omega) (by omega) dX7_settles_135 (by decide) rfl (fun c0 => absurd c0 (by omega)) (fun _ => ?_)
    refine v_aload_n (pc' := 139) F dX7_settles_138 rfl (j := 2) rfl rfl ?_
    have g15 := f14 _ _ (gnc (g_neA a8 g11) gn0) a8
    refine v_getf (pc' := 142) (v := .ref many) F k_X7_settles_7 g15 6 (by decide) m_X7_settles_f19 rfl dX7_settles_139 rfl ?_
    refine v_iload_n (pc' := 143) F dX7_settles_142 rfl (j := 0) rfl rfl ?_
    refine v_iconst (pc' := 144) (v := nI 0) F dX7_settles_143 (by decide) rfl ?_
    refine w_iast (pc' := 145) F a13 (by omega) (by omega) dX7_settles_144 rfl (fun h16 a17 f18 => ?_)
    refine v_iinc (pc' := 148) (j := 0) (x := nI 3) (v := nI 4) (L' := [(2, .int (nI 4)), (1, .int (nI p)), (0, .ref m)]) F dX7_settles_145 rfl (g_eqn (nI_add 3 1) (by omega)) (by decide) rfl rfl ?_
    refine v_goto (tgt := 132) F dX7_settles_148 (by decide) ?_
    refine v_iload_n (pc' := 133) F dX7_settles_132 rfl (j := 0) rfl rfl ?_
    refine v_bipush (pc' := 135) (v := nI 6) F dX7_settles_133 (by decide) rfl ?_
    refine w_icmp_ge (tgt := 151) (pc' := 138) F (by omega) (by omega) dX7_settles_135 (by decide) rfl (fun c0 => absurd c0 (by omega)) (fun _ => ?_)
    refine v_aload_n (pc' := 139) F dX7_settles_138 rfl (j := 2) rfl rfl ?_
    have g19 := f18 _ _ (gnc (g_neA g15 a13) gn0) g15
    refine v_getf (pc' := 142) (v := .ref many) F k_X7_settles_7 g19 6 (by decide) m_X7_settles_f19 rfl dX7_settles_139 rfl ?_
    refine v_iload_n (pc' := 143) F dX7_settles_142 rfl (j := 0) rfl rfl ?_
    refine v_iconst (pc' := 144) (v := nI 0) F dX7_settles_143 (by decide) rfl ?_
    refine w_iast (pc' := 145) F a17 (by omega) (by omega) dX7_settles_144 rfl (fun h20 a21 f22 => ?_)
    refine v_iinc (pc' := 148) (j := 0) (x := nI 4) (v := nI 5) (L' := [(2, .int (nI 5)), (1, .int (nI p)), (0, .ref m)]) F dX7_settles_145 rfl (g_eqn (nI_add 4 1) (by omega)) (by decide) rfl rfl ?_
    refine v_goto (tgt := 132) F dX7_settles_148 (by decide) ?_
    refine v_iload_n (pc' := 133) F dX7_settles_132 rfl (j := 0) rfl rfl ?_
    refine v_bipush (pc' := 135) (v := nI 6) F dX7_settles_133 (by decide) rfl ?_
    refine w_icmp_ge (tgt := 151) (pc' := 138) F (by omega) (by omega) dX7_settles_135 (by decide) rfl (fun c0 => absurd c0 (by omega)) (fun _ => ?_)
    refine v_aload_n (pc' := 139) F dX7_settles_138 rfl (j := 2) rfl rfl ?_
    have g23 := f22 _ _ (gnc (g_neA g19 a17) gn0) g19
    refine v_getf (pc' := 142) (v := .ref many) F k_X7_settles_7 g23 6 (by decide) m_X7_settles_f19 rfl dX7_settles_139 rfl ?_
    refine v_iload_n (pc' := 143) F dX7_settles_142 rfl (j := 0) rfl rfl ?_
    refine v_iconst (pc' := 144) (v := nI 0) F dX7_settles_143 (by decide) rfl ?_
    refine w_iast (pc' := 145) F a21 (by omega) (by omega) dX7_settles_144 rfl (fun h24 a25 f26 => ?_)
    refine v_iinc (pc' := 148) (j := 0) (x := nI 5) (v := nI 6) (L' := [(2, .int (nI 6)), (1, .int (nI p)), (0, .ref m)]) F dX7_settles_145 rfl (g_eqn (nI_add 5 1) (by omega)) (by decide) rfl rfl ?_
    refine v_goto (tgt := 132) F dX7_settles_148 (by decide) ?_
    refine v_iload_n (pc' := 133) F dX7_settles_132 rfl (j := 0) rfl rfl ?_
    refine v_bipush (pc' := 135) (v := nI 6) F dX7_settles_133 (by decide) rfl ?_
    refine w_icmp_ge (tgt := 151) (pc' := 138) F (by omega) (by omega) dX7_settles_135 (by decide) rfl (fun _ => ?_) (fun c0 => absurd c0 (by omega))
    have fr27 : gfr [m, vals, many] h h24 := (gfr.t (gfr.mono fS (by intro q9 z9 m9; apply z9; simp only [List.mem_cons, List.not_mem_nil, or_false] at m9 ⊢; omega)) (gfr.t (gfr.mono f6 (by intro q9 z9 m9; apply z9; simp only [List.mem_cons, List.not_mem_nil, or_false] at m9 ⊢; omega)) (gfr.t (gfr.mono f9 (by intro q9 z9 m9; apply z9; simp only [List.mem_cons, List.not_mem_nil, or_false] at m9 ⊢; omega)) (gfr.t (gfr.mono f14 (by intro q9 z9 m9; apply z9; simp only [List.mem_cons, List.not_mem_nil, or_false] at m9 ⊢; omega)) (gfr.t (gfr.mono f18 (by intro q9 z9 m9; apply z9; simp only [List.mem_cons, List.not_mem_nil, or_false] at m9 ⊢; omega)) (gfr.t (gfr.mono f22 (by intro q9 z9 m9; apply z9; simp only [List.mem_cons, List.not_mem_nil, or_false] at m9 ⊢; omega)) (gfr.mono f26 (by intro q9 z9 m9; apply z9; simp only [List.mem_cons, List.not_mem_nil, or_false] at m9 ⊢; omega))))))))
    have g28 := f26 _ _ (gnc (g_neA g23 a21) gn0) g23
    have g29 := f6 _ _ (gnc (Ne.symm (g_neA g3 hvS)) gn0) hvS
    have g30 := f9 _ _ (gnc (Ne.symm (g_neA a5 g29)) gn0) g29
    have g31 := f14 _ _ (gnc (g_neL hvals hmany (by decide)) gn0) g30
    have g32 := f18 _ _ (gnc (g_neL hvals hmany (by decide)) gn0) g31
    have g33 := f22 _ _ (gnc (g_neL hvals hmany (by decide)) gn0) g32
    have g34 := f26 _ _ (gnc (g_neL hvals hmany (by decide)) gn0) g33
    exact v_vret F E (by omega) (by omega)  dX7_settles_151 (hp rfl _ _ _ _ g28 g34 a25 ((((hlS.clear 2).clear 3).clear 4).clear 5) ⟨by simp [va_up, q5], by simp [va_up, q1], by simp [va_up, t0], fun _ => by simp [va_up, t0], by simp [va_up, t0], by simp [va_up, t0]⟩ fr27)
  · exact v_vret F E (by omega) (by omega)  dX7_settles_113 (hp2 c0 h V M ls hm hvals hmany hls ⟨q0, q1, q2, q3, q4, q5⟩ gfr.rf)

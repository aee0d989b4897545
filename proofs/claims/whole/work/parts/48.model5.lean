theorem k_X7_settles_7 : gCl wsX7_settles 7 RX7 TX7 26 := ⟨by decide +kernel, rfl⟩
theorem m_X7_settles_f85 : Cond.fieldLink RX7 85 "SteadyQueuesModel" "steps" "I" ∈ wsX7_settles := by decide +kernel
theorem hv_X7_isStep : yX7_isStep.cls = RX7 ∧ yX7_isStep.cls ≠ "java/lang/invoke/MethodHandle" ∧ yX7_isStep.cls ≠ "java/lang/invoke/VarHandle" ∧ (parseMethodDescriptor yX7_isStep.desc).map (fun d => d.parameters.length) = some 0 := by decide +kernel
set_option maxHeartbeats 4000000 in
set_option maxRecDepth 100000 in
theorem lp_X7_settles {G : gG} {z0 : Nat} {X : gX} {l : Launch} {mc ms cells slots j k p b gl hl : Nat} {h : gH} {m rows asd vals many  way told oth lst text : Nat} {th now und fl rl wm fed len spot fa fat num frm may : Int32} {V M : Nat → Int32} {ls : Nat → List Int32} {xs f r : List Int32} {T : mT} (F : gF G z0 X cX7_settles 3 RX7 wsX7_settles none "settles" 2 42 mc ms) (hcc : cells ≤ mc) (hss : slots ≤ ms) (hp9 : p < 1000) (hb : b < 64) (hm : h m = some (.inr (7, [.int th, .ref rows, .ref asd, .int now, .int und, .ref vals, .ref many, .int fl, .int rl, .int (nI T.1), .int (nI T.2.1), .int (nI k), .ref way, .int wm, .ref told, .ref oth, .ref lst, .ref text, .int fed, .int len, .int spot, .int fa, .int fat, .int num, .int frm, .int may]))) (hvals : h vals = some (oI G 384 V)) (hmany : h many = some (oI G 6 M)) (hls : mdL V M ls) (hT : mdT ls f r T) (hM : qM b xs (f, r, gl, hl, T)) (hkj : k + j = p) (K : ∀ (h' : gH) (V' M' : Nat → Int32) (ls' : Nat → List Int32), h' m = some (.inr (7, [.int th, .ref rows, .ref asd, .int now, .int und, .ref vals, .ref many, .int fl, .int rl, .int (nI ((tRun j T).1.1)), .int (nI ((tRun j T).1.2.1)), .int (nI (k + (tRun j T).2)), .ref way, .int wm, .ref told, .ref oth, .ref lst, .ref text, .int fed, .int len, .int spot, .int fa, .int fat, .int num, .int frm, .int may])) → h' vals = some (oI G 384 V') → h' many = some (oI G 6 M') → mdL V' M' ls' → mdT ls' f r (tRun j T).1 → gfr [m, vals, many] h h' → gV G z0 X cells slots h' 105 [(1, .int (nI p)), (0, .ref m)] []) : gV G z0 X cells slots h 77 [(1, .int (nI p)), (0, .ref m)] [] := by
  induction j generalizing k T V M ls h with
  | zero =>
    refine v_aload_n (pc' := 78) F dX7_settles_77 rfl (j := 1) rfl rfl ?_
    refine v_getf (pc' := 81) (v := .int (nI k)) F k_X7_settles_7 hm 11 (by decide) m_X7_settles_f85 rfl dX7_settles_78 rfl ?_
    refine v_iload_n (pc' := 82) F dX7_settles_81 rfl (j := 0) rfl rfl ?_
    refine w_icmp_ge (tgt := 105) (pc' := 85) F (by omega) (by omega) dX7_settles_82 (by decide) rfl (fun _ => ?_) (fun c0 => absurd c0 (by omega))
    exact K h V M ls hm hvals hmany hls hT gfr.rf
  | succ j ih =>
    obtain ⟨kk, ok, oF, nF, oR, nR⟩ := T
    have hM0 := hM
    obtain ⟨h1, h2, h3, h4, h5⟩ := hM0
    rcases h5 with ⟨rfl, h6⟩ | ⟨rfl, h6, h7, h8, h9, h10, h11, h12⟩ | ⟨rfl, h6, h7, h8, h9, h10, h11, h12⟩ | ⟨rfl, h6⟩
    · skip
      refine v_aload_n (pc' := 78) F dX7_settles_77 rfl (j := 1) rfl rfl ?_
      refine v_getf (pc' := 81) (v := .int (nI k)) F k_X7_settles_7 hm 11 (by decide) m_X7_settles_f85 rfl dX7_settles_78 rfl ?_
      refine v_iload_n (pc' := 82) F dX7_settles_81 rfl (j := 0) rfl rfl ?_
      refine w_icmp_ge (tgt := 105) (pc' := 85) F (by omega) (by omega) dX7_settles_82 (by decide) rfl (fun c0 => absurd c0 (by omega)) (fun _ => ?_)
      refine v_aload_n (pc' := 86) F dX7_settles_85 rfl (j := 1) rfl rfl ?_
      refine v_callV (pc' := 89) (rt := (some .boolean)) (mcc := 0) (msc := 0) (As := []) (st := []) F (fun l => c_X7_isStep_n0 G z0 l hm) gX7_settles_X7_isStep rfl hv_X7_isStep (by decide) (by decide) hm rfl rfl rfl (Nat.le_of_ble_eq_true rfl) (by omega) (by omega) dX7_settles_86 rfl (fun v1 h hq => ?_)
      obtain ⟨rfl, rfl⟩ := hq
      refine w_if_eq (tgt := 105) (pc' := 92) F (by omega) dX7_settles_89 (by decide) rfl (fun _ => ?_) (fun c0 => absurd rfl c0)
      exact K h V M ls hm hvals hmany hls hT gfr.rf
    · skip
      cases oF with
      | nil =>
        obtain ⟨y, rfl⟩ : ∃ y, oR = [y] := List.length_eq_one_iff.mp (by simpa using h8)
        simp only [List.length_nil] at *
        refine v_aload_n (pc' := 78) F dX7_settles_77 rfl (j := 1) rfl rfl ?_
        refine v_getf (pc' := 81) (v := .int (nI k)) F k_X7_settles_7 hm 11 (by decide) m_X7_settles_f85 rfl dX7_settles_78 rfl ?_
        refine v_iload_n (pc' := 82) F dX7_settles_81 rfl (j := 0) rfl rfl ?_
        refine w_icmp_ge (tgt := 105) (pc' := 85) F (by omega) (by omega) dX7_settles_82 (by decide) rfl (fun c0 => absurd c0 (by omega)) (fun _ => ?_)
        refine v_aload_n (pc' := 86) F dX7_settles_85 rfl (j := 1) rfl rfl ?_
        refine v_callV (pc' := 89) (rt := (some .boolean)) (mcc := 0) (msc := 0) (As := []) (st := []) F (fun l => c_X7_isStep_b G z0 l hm hvals hmany hls hT (by omega)) gX7_settles_X7_isStep rfl hv_X7_isStep (by decide) (by decide) hm rfl rfl rfl (Nat.le_of_ble_eq_true rfl) (by omega) (by omega) dX7_settles_86 rfl (fun v3 h2 hq => ?_)
        obtain ⟨rfl, hmS, V9, M9, ls9, hvS, hyS, hlS, hTS, fS⟩ := hq
        refine w_if_eq (tgt := 105) (pc' := 92) F (by omega) dX7_settles_89 (by decide) rfl (fun c0 => absurd c0 (by omega)) (fun _ => ?_)
        refine v_aload_n (pc' := 93) F dX7_settles_92 rfl (j := 1) rfl rfl ?_
        refine v_dup (pc' := 94) F dX7_settles_93 rfl rfl ?_
        refine v_getf (pc' := 97) (v := .int (nI k)) F k_X7_settles_7 hmS 11 (by decide) m_X7_settles_f85 rfl dX7_settles_94 rfl ?_
        refine v_iconst (pc' := 98) (v := nI 1) F dX7_settles_97 (by decide) rfl ?_
        refine v_iadd (pc' := 99) (v := nI (k + 1)) F dX7_settles_98 (nI_add k 1) rfl ?_
        refine w_putf (pc' := 102) F k_X7_settles_7 tyX7_ok nmX7 hmS 11 (by decide) m_X7_settles_f85 rfl  rfl rfl (show 11 < 26 by decide) [.int th, .ref rows, .ref asd, .int now, .int und, .ref vals, .ref many, .int fl, .int rl, .int (nI 2), .int (nI ok), .int (nI (k + 1)), .ref way, .int wm, .ref told, .ref oth, .ref lst, .ref text, .int fed, .int len, .int spot, .int fa, .int fat, .int num, .int frm, .int may] rfl dX7_settles_99 rfl (fun h4 a5 f6 => ?_)
        refine v_goto (tgt := 77) F dX7_settles_102 (by decide) ?_
        have fr7 : gfr [m, vals, many] h h4 := (gfr.t fS (gfr.mono f6 (by intro q9 z9 m9; apply z9; simp only [List.mem_cons, List.not_mem_nil, or_false] at m9 ⊢; omega)))
        have e9 : tRun (j + 1) (1, ok, [], nF, [y], nR) = ((tRun j (2, ok, [], nF, [], y :: nR)).1, (tRun j (2, ok, [], nF, [], y :: nR)).2 + 1) := rfl
        have g8 := f6 _ _ (gnc (Ne.symm (g_neA hmS hvS)) gn0) hvS
        have g9 := f6 _ _ (gnc (Ne.symm (g_neA hmS hyS)) gn0) hyS
        exact ih (k := k + 1) (T := (2, ok, [], nF, [], y :: nR)) a5 g8 g9 hlS hTS (tStep_M hM (T' := (2, ok, [], nF, [], y :: nR)) rfl).1 (by omega) (fun hA VA MA lsA a1 a2 a3 a4 a5 a6 => K hA VA MA lsA (by rw [e9]; simp only; rw [show k + ((tRun j (2, ok, [], nF, [], y :: nR)).2 + 1) = k + 1 + (tRun j (2, ok, [], nF, [], y :: nR)).2 by omega]; exact a1) a2 a3 a4 (by rw [e9]; exact a5) (gfr.t fr7 a6))
      | cons a oF =>
        cases oR with
        | nil => simp at h8
        | cons y oR =>
          simp only [List.length_cons] at h8 h10 h9
          refine v_aload_n (pc' := 78) F dX7_settles_77 rfl (j := 1) rfl rfl ?_
          refine v_getf (pc' := 81) (v := .int (nI k)) F k_X7_settles_7 hm 11 (by decide) m_X7_settles_f85 rfl dX7_settles_78 rfl ?_
          refine v_iload_n (pc' := 82) F dX7_settles_81 rfl (j := 0) rfl rfl ?_
          refine w_icmp_ge (tgt := 105) (pc' := 85) F (by omega) (by omega) dX7_settles_82 (by decide) rfl (fun c0 => absurd c0 (by omega)) (fun _ => ?_)
          refine v_aload_n (pc' := 86) F dX7_settles_85 rfl (j := 1) rfl rfl ?_
          refine v_callV (pc' := 89) (rt := (some .boolean)) (mcc := 0) (msc := 0) (As := []) (st := []) F (fun l => c_X7_isStep_a (ok := ok) G z0 l hm hvals hmany hls hT (by omega) (by omega) (by omega) (by omega) (by omega)) gX7_settles_X7_isStep rfl hv_X7_isStep (by decide) (by decide) hm rfl rfl rfl (Nat.le_of_ble_eq_true rfl) (by omega) (by omega) dX7_settles_86 rfl (fun v11 h10 hq => ?_)
          obtain ⟨rfl, hmS, V9, M9, ls9, hvS, hyS, hlS, hTS, fS⟩ := hq
          refine w_if_eq (tgt := 105) (pc' := 92) F (by omega) dX7_settles_89 (by decide) rfl (fun c0 => absurd c0 (by omega)) (fun _ => ?_)
          refine v_aload_n (pc' := 93) F dX7_settles_92 rfl (j := 1) rfl rfl ?_
          refine v_dup (pc' := 94) F dX7_settles_93 rfl rfl ?_
          refine v_getf (pc' := 97) (v := .int (nI k)) F k_X7_settles_7 hmS 11 (by decide) m_X7_settles_f85 rfl dX7_settles_94 rfl ?_
          refine v_iconst (pc' := 98) (v := nI 1) F dX7_settles_97 (by decide) rfl ?_
          refine v_iadd (pc' := 99) (v := nI (k + 1)) F dX7_settles_98 (nI_add k 1) rfl ?_
          refine w_putf (pc' := 102) F k_X7_settles_7 tyX7_ok nmX7 hmS 11 (by decide) m_X7_settles_f85 rfl  rfl rfl (show 11 < 26 by decide) [.int th, .ref rows, .ref asd, .int now, .int und, .ref vals, .ref many, .int fl, .int rl, .int (nI 1), .int (nI (ok + 1)), .int (nI (k + 1)), .ref way, .int wm, .ref told, .ref oth, .ref lst, .ref text, .int fed, .int len, .int spot, .int fa, .int fat, .int num, .int frm, .int may] rfl dX7_settles_99 rfl (fun h12 a13 f14 => ?_)
          refine v_goto (tgt := 77) F dX7_settles_102 (by decide) ?_
          have fr15 : gfr [m, vals, many] h h12 := (gfr.t fS (gfr.mono f14 (by intro q9 z9 m9; apply z9; simp only [List.mem_cons, List.not_mem_nil, or_false] at m9 ⊢; omega)))
          have e9 : tRun (j + 1) (1, ok, a :: oF, nF, y :: oR, nR) = ((tRun j (1, ok + 1, oF, a :: nF, oR, y :: nR)).1, (tRun j (1, ok + 1, oF, a :: nF, oR, y :: nR)).2 + 1) := rfl
          have g16 := f14 _ _ (gnc (Ne.symm (g_neA hmS hvS)) gn0) hvS
          have g17 := f14 _ _ (gnc (Ne.symm (g_neA hmS hyS)) gn0) hyS
          exact ih (k := k + 1) (T := (1, ok + 1, oF, a :: nF, oR, y :: nR)) a13 g16 g17 hlS hTS (tStep_M hM (T' := (1, ok + 1, oF, a :: nF, oR, y :: nR)) rfl).1 (by omega) (fun hA VA MA lsA a1 a2 a3 a4 a5 a6 => K hA VA MA lsA (by rw [e9]; simp only; rw [show k + ((tRun j (1, ok + 1, oF, a :: nF, oR, y :: nR)).2 + 1) = k + 1 + (tRun j (1, ok + 1, oF, a :: nF, oR, y :: nR)).2 by omega]; exact a1) a2 a3 a4 (by rw [e9]; exact a5) (gfr.t fr15 a6))
    · skip
      cases ok with
      | zero =>
        refine v_aload_n (pc' := 78) F dX7_settles_77 rfl (j := 1) rfl rfl ?_
        refine v_getf (pc' := 81) (v := .int (nI k)) F k_X7_settles_7 hm 11 (by decide) m_X7_settles_f85 rfl dX7_settles_78 rfl ?_
        refine v_iload_n (pc' := 82) F dX7_settles_81 rfl (j := 0) rfl rfl ?_
        refine w_icmp_ge (tgt := 105) (pc' := 85) F (by omega) (by omega) dX7_settles_82 (by decide) rfl (fun c0 => absurd c0 (by omega)) (fun _ => ?_)
        refine v_aload_n (pc' := 86) F dX7_settles_85 rfl (j := 1) rfl rfl ?_
        refine v_callV (pc' := 89) (rt := (some .boolean)) (mcc := 0) (msc := 0) (As := []) (st := []) F (fun l => c_X7_isStep_c G z0 l hm hvals hmany hls hT ) gX7_settles_X7_isStep rfl hv_X7_isStep (by decide) (by decide) hm rfl rfl rfl (Nat.le_of_ble_eq_true rfl) (by omega) (by omega) dX7_settles_86 rfl (fun v19 h18 hq => ?_)
        obtain ⟨rfl, hmS, V9, M9, ls9, hvS, hyS, hlS, hTS, fS⟩ := hq
        refine w_if_eq (tgt := 105) (pc' := 92) F (by omega) dX7_settles_89 (by decide) rfl (fun c0 => absurd c0 (by omega)) (fun _ => ?_)
        refine v_aload_n (pc' := 93) F dX7_settles_92 rfl (j := 1) rfl rfl ?_
        refine v_dup (pc' := 94) F dX7_settles_93 rfl rfl ?_
        refine v_getf (pc' := 97) (v := .int (nI k)) F k_X7_settles_7 hmS 11 (by decide) m_X7_settles_f85 rfl dX7_settles_94 rfl ?_
        refine v_iconst (pc' := 98) (v := nI 1) F dX7_settles_97 (by decide) rfl ?_
        refine v_iadd (pc' := 99) (v := nI (k + 1)) F dX7_settles_98 (nI_add k 1) rfl ?_
        refine w_putf (pc' := 102) F k_X7_settles_7 tyX7_ok nmX7 hmS 11 (by decide) m_X7_settles_f85 rfl  rfl rfl (show 11 < 26 by decide) [.int th, .ref rows, .ref asd, .int now, .int und, .ref vals, .ref many, .int fl, .int rl, .int (nI 3), .int (nI 0), .int (nI (k + 1)), .ref way, .int wm, .ref told, .ref oth, .ref lst, .ref text, .int fed, .int len, .int spot, .int fa, .int fat, .int num, .int frm, .int may] rfl dX7_settles_99 rfl (fun h20 a21 f22 => ?_)
        refine v_goto (tgt := 77) F dX7_settles_102 (by decide) ?_
        have fr23 : gfr [m, vals, many] h h20 := (gfr.t fS (gfr.mono f22 (by intro q9 z9 m9; apply z9; simp only [List.mem_cons, List.not_mem_nil, or_false] at m9 ⊢; omega)))
        have e9 : tRun (j + 1) (2, 0, oF, nF, oR, nR) = ((tRun j (3, 0, oF, [], oR, nR)).1, (tRun j (3, 0, oF, [], oR, nR)).2 + 1) := rfl
        have g24 := f22 _ _ (gnc (Ne.symm (g_neA hmS hvS)) gn0) hvS
        have g25 := f22 _ _ (gnc (Ne.symm (g_neA hmS hyS)) gn0) hyS
        exact ih (k := k + 1) (T := (3, 0, oF, [], oR, nR)) a21 g24 g25 hlS hTS (tStep_M hM (T' := (3, 0, oF, [], oR, nR)) rfl).1 (by omega) (fun hA VA MA lsA a1 a2 a3 a4 a5 a6 => K hA VA MA lsA (by rw [e9]; simp only; rw [show k + ((tRun j (3, 0, oF, [], oR, nR)).2 + 1) = k + 1 + (tRun j (3, 0, oF, [], oR, nR)).2 by omega]; exact a1) a2 a3 a4 (by rw [e9]; exact a5) (gfr.t fr23 a6))
      | succ ok =>
        cases nF with
        | nil => simp at h6
        | cons a nF =>
          simp only [List.length_cons] at h6 h11
          refine v_aload_n (pc' := 78) F dX7_settles_77 rfl (j := 1) rfl rfl ?_
          refine v_getf (pc' := 81) (v := .int (nI k)) F k_X7_settles_7 hm 11 (by decide) m_X7_settles_f85 rfl dX7_settles_78 rfl ?_
          refine v_iload_n (pc' := 82) F dX7_settles_81 rfl (j := 0) rfl rfl ?_
          refine w_icmp_ge (tgt := 105) (pc' := 85) F (by omega) (by omega) dX7_settles_82 (by decide) rfl (fun c0 => absurd c0 (by omega)) (fun _ => ?_)
          refine v_aload_n (pc' := 86) F dX7_settles_85 rfl (j := 1) rfl rfl ?_
          refine v_callV (pc' := 89) (rt := (some .boolean)) (mcc := 0) (msc := 0) (As := []) (st := []) F (fun l => c_X7_isStep_d (ok := ok) G z0 l hm hvals hmany hls hT (by omega) (by omega) (by omega)) gX7_settles_X7_isStep rfl hv_X7_isStep (by decide) (by decide) hm rfl rfl rfl (Nat.le_of_ble_eq_true rfl) (by omega) (by omega) dX7_settles_86 rfl (fun v27 h26 hq => ?_)
          obtain ⟨rfl, hmS, V9, M9, ls9, hvS, hyS, hlS, hTS, fS⟩ := hq
          refine w_if_eq (tgt := 105) (pc' := 92) F (by omega) dX7_settles_89 (by decide) rfl (fun c0 => absurd c0 (by omega)) (fun _ => ?_)
          refine v_aload_n (pc' := 93) F dX7_settles_92 rfl (j := 1) rfl rfl ?_
          refine v_dup (pc' := 94) F dX7_settles_93 rfl rfl ?_
          refine v_getf (pc' := 97) (v := .int (nI k)) F k_X7_settles_7 hmS 11 (by decide) m_X7_settles_f85 rfl dX7_settles_94 rfl ?_
          refine v_iconst (pc' := 98) (v := nI 1) F dX7_settles_97 (by decide) rfl ?_
          refine v_iadd (pc' := 99) (v := nI (k + 1)) F dX7_settles_98 (nI_add k 1) rfl ?_
          refine w_putf (pc' := 102) F k_X7_settles_7 tyX7_ok nmX7 hmS 11 (by decide) m_X7_settles_f85 rfl  rfl rfl (show 11 < 26 by decide) [.int th, .ref rows, .ref asd, .int now, .int und, .ref vals, .ref many, .int fl, .int rl, .int (nI 2), .int (nI ok), .int (nI (k + 1)), .ref way, .int wm, .ref told, .ref oth, .ref lst, .ref text, .int fed, .int len, .int spot, .int fa, .int fat, .int num, .int frm, .int may] rfl dX7_settles_99 rfl (fun h28 a29 f30 => ?_)
          refine v_goto (tgt := 77) F dX7_settles_102 (by decide) ?_
          have fr31 : gfr [m, vals, many] h h28 := (gfr.t fS (gfr.mono f30 (by intro q9 z9 m9; apply z9; simp only [List.mem_cons, List.not_mem_nil, or_false] at m9 ⊢; omega)))
          have e9 : tRun (j + 1) (2, ok + 1, oF, a :: nF, oR, nR) = ((tRun j (2, ok, oF, nF, oR, a :: nR)).1, (tRun j (2, ok, oF, nF, oR, a :: nR)).2 + 1) := rfl
          have g32 := f30 _ _ (gnc (Ne.symm (g_neA hmS hvS)) gn0) hvS
          have g33 := f30 _ _ (gnc (Ne.symm (g_neA hmS hyS)) gn0) hyS
          exact ih (k := k + 1) (T := (2, ok, oF, nF, oR, a :: nR)) a29 g32 g33 hlS hTS (tStep_M hM (T' := (2, ok, oF, nF, oR, a :: nR)) rfl).1 (by omega) (fun hA VA MA lsA a1 a2 a3 a4 a5 a6 => K hA VA MA lsA (by rw [e9]; simp only; rw [show k + ((tRun j (2, ok, oF, nF, oR, a :: nR)).2 + 1) = k + 1 + (tRun j (2, ok, oF, nF, oR, a :: nR)).2 by omega]; exact a1) a2 a3 a4 (by rw [e9]; exact a5) (gfr.t fr31 a6))
    · skip
      refine v_aload_n (pc' := 78) F dX7_settles_77 rfl (j := 1) rfl rfl ?_
      refine v_getf (pc' := 81) (v := .int (nI k)) F k_X7_settles_7 hm 11 (by decide) m_X7_settles_f85 rfl dX7_settles_78 rfl ?_
      refine v_iload_n (pc' := 82) F dX7_settles_81 rfl (j := 0) rfl rfl ?_
      refine w_icmp_ge (tgt := 105) (pc' := 85) F (by omega) (by omega) dX7_settles_82 (by decide) rfl (fun c0 => absurd c0 (by omega)) (fun _ => ?_)
      refine v_aload_n (pc' := 86) F dX7_settles_85 rfl (j := 1) rfl rfl ?_
      refine v_callV (pc' := 89) (rt := (some .boolean)) (mcc := 0) (msc := 0) (As := []) (st := []) F (fun l => c_X7_isStep_n3 G z0 l hm) gX7_settles_X7_isStep rfl hv_X7_isStep (by decide) (by decide) hm rfl rfl rfl (Nat.le_of_ble_eq_true rfl) (by omega) (by omega) dX7_settles_86 rfl (fun v34 h hq => ?_)
      obtain ⟨rfl, rfl⟩ := hq
      refine w_if_eq (tgt := 105) (pc' := 92) F (by omega) dX7_settles_89 (by decide) rfl (fun _ => ?_) (fun c0 => absurd rfl c0)
      exact K h V M ls hm hvals hmany hls hT gfr.rf

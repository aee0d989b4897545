/-! STEADYQUEUES: THE CHANGES -/
theorem g_neL {h : gH} {a b : Nat} {x y : ClassId} {n m : Nat} {f g : _} (ha : h a = some (.inl (x, n, f))) (hb : h b = some (.inl (y, m, g))) (hne : n ≠ m) : a ≠ b := fun q => by
  subst q
  rw [ha] at hb
  cases hb
  exact hne rfl
theorem m_X6_push_c65 : Cond.classLink RX6 65 "java/lang/IllegalArgumentException" ∈ wsX6_push := by decide +kernel
theorem m_X6_push_iniIAE : Cond.initialized "java/lang/IllegalArgumentException" ∈ wsX6_push := by decide +kernel
theorem m_X6_push_atIAE : ∀ w ∈ (vx_atS RX6 69 "java/lang/IllegalArgumentException" gNames).filter goodWord, w ∈ wsX6_push := by decide +kernel
theorem hv_X6_needRoom : yX6_needRoom.cls = RX6 ∧ yX6_needRoom.cls ≠ "java/lang/invoke/MethodHandle" ∧ yX6_needRoom.cls ≠ "java/lang/invoke/VarHandle" ∧ (parseMethodDescriptor yX6_needRoom.desc).map (fun d => d.parameters.length) = some 0 := by decide +kernel
theorem hv_X6_freshDraft : yX6_freshDraft.cls = RX6 ∧ yX6_freshDraft.cls ≠ "java/lang/invoke/MethodHandle" ∧ yX6_freshDraft.cls ≠ "java/lang/invoke/VarHandle" ∧ (parseMethodDescriptor yX6_freshDraft.desc).map (fun d => d.parameters.length) = some 0 := by decide +kernel
theorem hv_X0_makeByPush : yX0_makeByPush.cls = RX0 ∧ yX0_makeByPush.cls ≠ "java/lang/invoke/MethodHandle" ∧ yX0_makeByPush.cls ≠ "java/lang/invoke/VarHandle" ∧ (parseMethodDescriptor yX0_makeByPush.desc).map (fun d => d.parameters.length) = some 2 := by decide +kernel
theorem hv_X6_keepDraft : yX6_keepDraft.cls = RX6 ∧ yX6_keepDraft.cls ≠ "java/lang/invoke/MethodHandle" ∧ yX6_keepDraft.cls ≠ "java/lang/invoke/VarHandle" ∧ (parseMethodDescriptor yX6_keepDraft.desc).map (fun d => d.parameters.length) = some 0 := by decide +kernel
set_option maxHeartbeats 4000000 in
set_option maxRecDepth 100000 in
theorem c_X6_push (G : gG) (z0 : Nat) (l : Launch) (hst : l.stackTraces = false) {h : gH} {x buf rd bks oq rw orw bl cur und : Nat} {off : Int32} {bk : Nat → Nat} {va n pc dr : Nat} {ad : Nat → Nat} {as : Nat → List Nat} {os : Nat → List mO} {va2 n2 pc2 dr2 : Nat} (ix w : Int32) (hX : isX6 G h x buf rd bks oq rw orw bl off cur und bk) (hc : cur < 10) (hu : und ≤ 8) (hn : n ≤ 64) (hB : isBk G h (bk cur) va n pc dr ad) (hD : isDat h n ad as os) (hro : rw ≠ orw) (hsc : scr G h rw orw oq) (hbb : bk ((cur + 1) % 10) ≠ bk cur) (hvv : va2 ≠ va) (hB2 : h (bk ((cur + 1) % 10)) = some (.inr (0, [.ref va2, .int (nI n2), .int (nI pc2), .int (nI dr2)])) ∧ ∃ f2, h va2 = some (oV G 64 f2)) (hpc : 2 ≤ pc ∧ pc ≤ 4) : gCX G z0 l yX6_push wsX6_push 7 112 [.ref x, .int ix, .int w] h (fun v h' => ∃ j k, j < n ∧ k < 100 ∧ ix = nI j ∧ w = nI k ∧ n < 64 ∧ ∃ w9, v = some (.int (nI n)) ∧ h w9 = none ∧ isX6 G h' x buf rd bks oq rw orw bl off ((cur + 1) % 10) (min 8 (und + 1)) bk ∧ isBk G h' (bk ((cur + 1) % 10)) va2 (n + 1) pc dr (va_up ad n w9) ∧ isVx h' w9 (some (ad j)) ((nI k, pc) :: os j) ∧ gfr [x, bk ((cur + 1) % 10), va2] h h') (xPost G h rw orw oq (fun E => (E = "java/lang/IndexOutOfBoundsException" ∧ ¬ iR ix n) ∨ (E = "java/lang/IllegalArgumentException" ∧ iR ix n ∧ ¬ iR w 100) ∨ (E = "java/lang/IllegalStateException" ∧ iR ix n ∧ iR w 100 ∧ ¬ n < 64))) 13 45 := by
  obtain ⟨hx, fb, hbks, hfb⟩ := id hX
  obtain ⟨hb, f, hva, hf⟩ := id hB
  obtain ⟨⟨f0, hrw⟩, ⟨g0, horw⟩, oa, ob, oc, od, hoq⟩ := id hsc
  obtain ⟨hb2, f2, hva2⟩ := id hB2
  refine gCX_of hst (cc := cX6_push) (nL := 4) (ret := (some .int)) (by decide) rfl (Nat.le_of_ble_eq_true rfl) ?_
  intro X F E EX _
  change gF G z0 X cX6_push 4 RX6 wsX6_push (some .int) "push" 7 112 _ _ at F
  show gV G z0 X 0 0 h 0 [(0, .ref x), (1, .int ix), (2, .int w)] []
  refine v_aload_n (pc' := 1) F dX6_push_0 rfl (j := 0) rfl rfl ?_
  refine v_iload_n (pc' := 2) F dX6_push_1 rfl (j := 1) rfl rfl ?_
  refine v_callVX (pc' := 5) (rt := (some (.object "SteadyQueues$Version"))) (mcc := 1) (msc := 6) (As := [.int ix]) (st := []) F EX (fun l hst => c_X6_needVersion G z0 l hst ix hX hc hu hn hB) (fun E h' q => ⟨Or.inl ⟨q.2.1, q.2.2⟩, by rw [q.1]; exact hsc, by rw [q.1]; exact gfr.rf⟩) gX6_push_X6_needVersion rfl hv_X6_needVersion (by decide) (by decide) hx rfl rfl rfl (Nat.le_of_ble_eq_true rfl) (by omega) (by omega) dX6_push_2 rfl (fun v1 h hq => ?_)
  obtain ⟨j, hj, rfl, rfl, rfl⟩ := hq
  obtain ⟨tj, aj, bj, hvj, hfaj, hfbj, hTj, x3j, x4j, x5j, x6j, htj⟩ := (hD.x j hj).obj
  have hO1 := (hD j hj).2
  have hqf := qOf_fl hO1.1
  have hlv := wVals_le (os j)
  refine v_pop (pc' := 6) F dX6_push_5 rfl rfl ?_
  refine v_iload_n (pc' := 7) F dX6_push_6 rfl (j := 2) rfl rfl ?_
  rcases pk_ix w (n := 100) (by omega) with h1 | h1 | ⟨k, hk, rfl⟩
  · refine v_if_lt (tgt := 16) (pc' := 10) F dX6_push_7 (by decide) rfl (fun _ => ?_) (fun c0 => absurd h1 c0)
    have fr2 : gfr [rw, orw, oq] h h := gfr.rf
    exact v_throw F EX (E := "java/lang/IllegalArgumentException") (text := "no such value") (num := 9) hv_th_RX6_65_69 m_X6_push_c65 m_X6_push_iniIAE m_X6_push_atIAE (by decide +kernel) dX6_push_16 rfl dX6_push_19 rfl dX6_push_20 rfl dX6_push_22 rfl dX6_push_25 (by decide) (Nat.le_of_ble_eq_true rfl) (by omega) (by omega) ⟨Or.inr (Or.inl ⟨rfl, ⟨j, hj, rfl⟩, iR_neg (by omega) h1⟩), ⟨⟨_, hrw⟩, ⟨_, horw⟩, _, _, _, _, hoq⟩, fr2⟩
  · refine v_if_lt (tgt := 16) (pc' := 10) F dX6_push_7 (by decide) rfl (fun c1 => ?_) (fun c1 => ?_)
    · have fr3 : gfr [rw, orw, oq] h h := gfr.rf
      exact v_throw F EX (E := "java/lang/IllegalArgumentException") (text := "no such value") (num := 9) hv_th_RX6_65_69 m_X6_push_c65 m_X6_push_iniIAE m_X6_push_atIAE (by decide +kernel) dX6_push_16 rfl dX6_push_19 rfl dX6_push_20 rfl dX6_push_22 rfl dX6_push_25 (by decide) (Nat.le_of_ble_eq_true rfl) (by omega) (by omega) ⟨Or.inr (Or.inl ⟨rfl, ⟨j, hj, rfl⟩, iR_ge (by omega) h1⟩), ⟨⟨_, hrw⟩, ⟨_, horw⟩, _, _, _, _, hoq⟩, fr3⟩
    · refine v_iload_n (pc' := 11) F dX6_push_10 rfl (j := 2) rfl rfl ?_
      refine v_bipush (pc' := 13) (v := nI 99) F dX6_push_11 (by decide) rfl ?_
      refine v_icmp_le (tgt := 26) (pc' := 16) F dX6_push_13 (by decide) rfl (fun c0 => absurd c0 (Int32.not_le.mpr (Int32.lt_of_lt_of_le (show nI 99 < nI 100 by decide) h1))) (fun _ => ?_)
      have fr4 : gfr [rw, orw, oq] h h := gfr.rf
      exact v_throw F EX (E := "java/lang/IllegalArgumentException") (text := "no such value") (num := 9) hv_th_RX6_65_69 m_X6_push_c65 m_X6_push_iniIAE m_X6_push_atIAE (by decide +kernel) dX6_push_16 rfl dX6_push_19 rfl dX6_push_20 rfl dX6_push_22 rfl dX6_push_25 (by decide) (Nat.le_of_ble_eq_true rfl) (by omega) (by omega) ⟨Or.inr (Or.inl ⟨rfl, ⟨j, hj, rfl⟩, iR_ge (by omega) h1⟩), ⟨⟨_, hrw⟩, ⟨_, horw⟩, _, _, _, _, hoq⟩, fr4⟩
  · refine w_if_lt (tgt := 16) (pc' := 10) F (by omega) dX6_push_7 (by decide) rfl (fun c0 => absurd c0 (by omega)) (fun _ => ?_)
    refine v_iload_n (pc' := 11) F dX6_push_10 rfl (j := 2) rfl rfl ?_
    refine v_bipush (pc' := 13) (v := nI 99) F dX6_push_11 (by decide) rfl ?_
    refine w_icmp_le (tgt := 26) (pc' := 16) F (by omega) (by omega) dX6_push_13 (by decide) rfl (fun _ => ?_) (fun c0 => absurd c0 (by omega))
    refine v_aload_n (pc' := 27) F dX6_push_26 rfl (j := 0) rfl rfl ?_
    refine v_callVX (pc' := 30) (rt := none) (mcc := 1) (msc := 6) (As := []) (st := []) F EX (fun l hst => c_X6_needRoom G z0 l hst hX hc hu hn hB) (fun E h' q => ⟨Or.inr (Or.inr ⟨q.2.1, ⟨j, hj, rfl⟩, ⟨k, hk, rfl⟩, q.2.2⟩), by rw [q.1]; exact hsc, by rw [q.1]; exact gfr.rf⟩) gX6_push_X6_needRoom rfl hv_X6_needRoom (by decide) (by decide) hx rfl rfl rfl (Nat.le_of_ble_eq_true rfl) (by omega) (by omega) dX6_push_27 rfl (fun v5 h hq => ?_)
    obtain ⟨rfl, hn64, rfl⟩ := hq
    refine v_aload_n (pc' := 31) F dX6_push_30 rfl (j := 0) rfl rfl ?_
    refine v_callV (pc' := 34) (rt := (some (.object "SteadyQueues$Book"))) (mcc := 0) (msc := 0) (As := []) (st := []) F (fun l => c_X6_freshDraft G z0 l ⟨hx, fb, hbks, hfb⟩ hc hu hn hB hbb hvv hB2 (fun j9 h9 => (hD j9 h9).1.v.kindE)) gX6_push_X6_freshDraft rfl hv_X6_freshDraft (by decide) (by decide) hx rfl rfl rfl (Nat.le_of_ble_eq_true rfl) (by omega) (by omega) dX6_push_31 rfl (fun v7 h6 hq => ?_)
    obtain ⟨rfl, hB9, hf9⟩ := hq
    have pv9 := gfr.pv hf9 (by intro a9 m9 ci9 fs9 c9 z9; simp only [List.mem_cons, List.not_mem_nil, or_false] at m9; rcases m9 with rfl | rfl <;> first | (rw [hb2] at z9; cases z9; omega) | (rw [hva2] at z9; cases z9))
    obtain ⟨hb9, f9, hva9, hfa9⟩ := id hB9
    refine v_iload_n (pc' := 35) F dX6_push_34 rfl (j := 1) rfl rfl ?_
    refine v_iload_n (pc' := 36) F dX6_push_35 rfl (j := 2) rfl rfl ?_
    have hO2 : wOk ((nI k, pc) :: os j) := ⟨hO1.1, hpc.1, hpc.2, fun z => absurd z (nI_m1 hk), fun _ => ⟨k, hk, rfl⟩⟩
    refine v_callV (pc' := 39) (rt := (some .int)) (mcc := 11) (msc := 33) (As := [.int (nI j), .int (nI k)]) (st := []) F (fun l => c_X0_makeByPush G z0 l (nI k) (nI_m1 hk) hn64 hB9 hj ((hD.x j hj).pv pv9) hO2 hO1.2 hpc.2) gX6_push_X0_makeByPush rfl hv_X0_makeByPush (by decide) (by decide) hb9 rfl rfl rfl (Nat.le_of_ble_eq_true rfl) (by omega) (by omega) dX6_push_36 rfl (fun v9 h8 hq => ?_)
    obtain ⟨rfl, w9, hw9, hB4, hV4, hf4⟩ := hq
    obtain ⟨hb4, f4, hva4, hfa4⟩ := id hB4
    refine v_istore_n (pc' := 40) (i := 3) (L' := [(3, .int (nI n)), (0, .ref x), (1, .int (nI j)), (2, .int (nI k))]) F dX6_push_39 rfl (by decide) rfl rfl ?_
    refine v_aload_n (pc' := 41) F dX6_push_40 rfl (j := 1) rfl rfl ?_
    have g10 := hf9 _ _ (gnc (g_neC hx hb2 (by decide)) (gnc (g_neA hx hva2) gn0)) hx
    have g11 := hf4 _ _ (gnc (g_neC g10 hb9 (by decide)) (gnc (g_neA g10 hva9) gn0)) g10
    have g12 := hf9 _ _ (gnc (Ne.symm (g_neA hb2 hbks)) (gnc (g_neL hbks hva2 (by decide)) gn0)) hbks
    have g13 := hf4 _ _ (gnc (Ne.symm (g_neA hb9 g12)) (gnc (g_neL g12 hva9 (by decide)) gn0)) g12
    refine v_callV (pc' := 44) (rt := none) (mcc := 0) (msc := 0) (As := []) (st := []) F (fun l => c_X6_keepDraft G z0 l ⟨g11, fb, g13, hfb⟩ hc hu) gX6_push_X6_keepDraft rfl hv_X6_keepDraft (by decide) (by decide) g11 rfl rfl rfl (Nat.le_of_ble_eq_true rfl) (by omega) (by omega) dX6_push_41 rfl (fun v15 h14 hq => ?_)
    obtain ⟨rfl, hX5, hf5⟩ := hq
    obtain ⟨hx5, -⟩ := id hX5
    have pv5 := gfr.pv hf5 (by intro a9 m9 ci9 fs9 c9 z9; rw [List.mem_singleton.mp m9, g11] at z9; cases z9; omega)
    refine v_iload_n (pc' := 45) F dX6_push_44 rfl (j := 0) rfl rfl ?_
    have fr16 : gfr [x, bk ((cur + 1) % 10), va2] h h14 := (gfr.t (gfr.mono hf9 (by intro q9 z9 m9; apply z9; simp only [List.mem_cons, List.not_mem_nil, or_false] at m9 ⊢; omega)) (gfr.t (gfr.mono hf4 (by intro q9 z9 m9; apply z9; simp only [List.mem_cons, List.not_mem_nil, or_false] at m9 ⊢; omega)) (gfr.mono hf5 (by intro q9 z9 m9; apply z9; simp only [List.mem_cons, List.not_mem_nil, or_false] at m9 ⊢; omega))))
    have hn0 : h w9 = none := by
      cases hz : h w9 with
      | none => rfl
      | some e9 =>
        exfalso
        by_cases m9 : w9 ∈ [bk ((cur + 1) % 10), va2]
        · simp only [List.mem_cons, List.not_mem_nil, or_false] at m9
          rcases m9 with rfl | rfl
          · rw [hb9] at hw9; cases hw9
          · rw [hva9] at hw9; cases hw9
        · rw [hf9 _ _ m9 hz] at hw9; cases hw9
    have g17 := hf5 _ _ (gnc (g_neC hb4 g11 (by decide)) gn0) hb4
    have g18 := hf5 _ _ (gnc (Ne.symm (g_neA g11 hva4)) gn0) hva4
    exact v_iret F E (by omega) (by omega)  dX6_push_45 ⟨j, k, hj, hk, rfl, rfl, hn64, w9, rfl, hn0, hX5, ⟨g17, _, g18, hfa4⟩, hV4.pv pv5, fr16⟩
theorem hv_X0_makeByPop : yX0_makeByPop.cls = RX0 ∧ yX0_makeByPop.cls ≠ "java/lang/invoke/MethodHandle" ∧ yX0_makeByPop.cls ≠ "java/lang/invoke/VarHandle" ∧ (parseMethodDescriptor yX0_makeByPop.desc).map (fun d => d.parameters.length) = some 1 := by decide +kernel
theorem m_X6_pop_c208 : Cond.classLink RX6 208 "java/lang/IllegalStateException" ∈ wsX6_pop := by decide +kernel
theorem m_X6_pop_iniISE : Cond.initialized "java/lang/IllegalStateException" ∈ wsX6_pop := by decide +kernel
theorem m_X6_pop_atISE : ∀ w ∈ (vx_atS RX6 210 "java/lang/IllegalStateException" gNames).filter goodWord, w ∈ wsX6_pop := by decide +kernel
set_option maxHeartbeats 4000000 in
set_option maxRecDepth 100000 in
theorem c_X6_pop (G : gG) (z0 : Nat) (l : Launch) (hst : l.stackTraces = false) {h : gH} {x buf rd bks oq rw orw bl cur und : Nat} {off : Int32} {bk : Nat → Nat} {va n pc dr : Nat} {ad : Nat → Nat} {as : Nat → List Nat} {os : Nat → List mO} {va2 n2 pc2 dr2 : Nat} (ix : Int32) (hX : isX6 G h x buf rd bks oq rw orw bl off cur und bk) (hc : cur < 10) (hu : und ≤ 8) (hn : n ≤ 64) (hB : isBk G h (bk cur) va n pc dr ad) (hD : isDat h n ad as os) (hro : rw ≠ orw) (hsc : scr G h rw orw oq) (hbb : bk ((cur + 1) % 10) ≠ bk cur) (hvv : va2 ≠ va) (hB2 : h (bk ((cur + 1) % 10)) = some (.inr (0, [.ref va2, .int (nI n2), .int (nI pc2), .int (nI dr2)])) ∧ ∃ f2, h va2 = some (oV G 64 f2)) (hpc : 2 ≤ pc ∧ pc ≤ 4) : gCX G z0 l yX6_pop wsX6_pop 7 112 [.ref x, .int ix] h (fun v h' => ∃ j, j < n ∧ ix = nI j ∧ wVals (os j) ≠ [] ∧ n < 64 ∧ ∃ w9, v = some (.int (nI n)) ∧ h w9 = none ∧ isX6 G h' x buf rd bks oq rw orw bl off ((cur + 1) % 10) (min 8 (und + 1)) bk ∧ isBk G h' (bk ((cur + 1) % 10)) va2 (n + 1) pc dr (va_up ad n w9) ∧ isVx h' w9 (some (ad j)) ((-1, pc) :: os j) ∧ gfr [x, bk ((cur + 1) % 10), va2] h h') (xPost G h rw orw oq (fun E => (E = "java/lang/IndexOutOfBoundsException" ∧ ¬ iR ix n) ∨ (E = "java/lang/IllegalStateException" ∧ iR ix n ∧ ¬ ∀ j, j < n → ix = nI j → wVals (os j) ≠ [] ∧ n < 64))) 13 45 := by
  obtain ⟨hx, fb, hbks, hfb⟩ := id hX
  obtain ⟨hb, f, hva, hf⟩ := id hB
  obtain ⟨⟨f0, hrw⟩, ⟨g0, horw⟩, oa, ob, oc, od, hoq⟩ := id hsc
  obtain ⟨hb2, f2, hva2⟩ := id hB2
  refine gCX_of hst (cc := cX6_pop) (nL := 3) (ret := (some .int)) (by decide) rfl (Nat.le_of_ble_eq_true rfl) ?_
  intro X F E EX _
  change gF G z0 X cX6_pop 3 RX6 wsX6_pop (some .int) "pop" 7 112 _ _ at F
  show gV G z0 X 0 0 h 0 [(0, .ref x), (1, .int ix)] []
  refine v_aload_n (pc' := 1) F dX6_pop_0 rfl (j := 0) rfl rfl ?_
  refine v_iload_n (pc' := 2) F dX6_pop_1 rfl (j := 1) rfl rfl ?_
  refine v_callVX (pc' := 5) (rt := (some (.object "SteadyQueues$Version"))) (mcc := 1) (msc := 6) (As := [.int ix]) (st := []) F EX (fun l hst => c_X6_needVersion G z0 l hst ix hX hc hu hn hB) (fun E h' q => ⟨Or.inl ⟨q.2.1, q.2.2⟩, by rw [q.1]; exact hsc, by rw [q.1]; exact gfr.rf⟩) gX6_pop_X6_needVersion rfl hv_X6_needVersion (by decide) (by decide) hx rfl rfl rfl (Nat.le_of_ble_eq_true rfl) (by omega) (by omega) dX6_pop_2 rfl (fun v1 h hq => ?_)
  obtain ⟨j, hj, rfl, rfl, rfl⟩ := hq
  obtain ⟨tj, aj, bj, hvj, hfaj, hfbj, hTj, x3j, x4j, x5j, x6j, htj⟩ := (hD.x j hj).obj
  have hO1 := (hD j hj).2
  have hqf := qOf_fl hO1.1
  have hlv := wVals_le (os j)
  refine v_callV (pc' := 8) (rt := (some .int)) (mcc := 0) (msc := 0) (As := []) (st := []) F (fun l => c_X5_length G z0 l (hD.x j hj).choose_spec) gX6_pop_X5_length rfl hv_X5_length (by decide) (by decide) hvj rfl rfl rfl (Nat.le_of_ble_eq_true rfl) (by omega) (by omega) dX6_pop_5 rfl (fun v2 h hq => ?_)
  obtain ⟨rfl, rfl⟩ := hq
  refine w_if_ne (tgt := 21) (pc' := 11) F (by omega) dX6_pop_8 (by decide) rfl (fun c0 => ?_) (fun c0 => ?_)
  · refine v_aload_n (pc' := 22) F dX6_pop_21 rfl (j := 0) rfl rfl ?_
    refine v_callVX (pc' := 25) (rt := none) (mcc := 1) (msc := 6) (As := []) (st := []) F EX (fun l hst => c_X6_needRoom G z0 l hst hX hc hu hn hB) (fun E h' q => ⟨Or.inr ⟨q.2.1, ⟨j, hj, rfl⟩, fun z => q.2.2 (z j hj rfl).2⟩, by rw [q.1]; exact hsc, by rw [q.1]; exact gfr.rf⟩) gX6_pop_X6_needRoom rfl hv_X6_needRoom (by decide) (by decide) hx rfl rfl rfl (Nat.le_of_ble_eq_true rfl) (by omega) (by omega) dX6_pop_22 rfl (fun v3 h hq => ?_)
    obtain ⟨rfl, hn64, rfl⟩ := hq
    refine v_aload_n (pc' := 26) F dX6_pop_25 rfl (j := 0) rfl rfl ?_
    refine v_callV (pc' := 29) (rt := (some (.object "SteadyQueues$Book"))) (mcc := 0) (msc := 0) (As := []) (st := []) F (fun l => c_X6_freshDraft G z0 l ⟨hx, fb, hbks, hfb⟩ hc hu hn hB hbb hvv hB2 (fun j9 h9 => (hD j9 h9).1.v.kindE)) gX6_pop_X6_freshDraft rfl hv_X6_freshDraft (by decide) (by decide) hx rfl rfl rfl (Nat.le_of_ble_eq_true rfl) (by omega) (by omega) dX6_pop_26 rfl (fun v5 h4 hq => ?_)
    obtain ⟨rfl, hB9, hf9⟩ := hq
    have pv9 := gfr.pv hf9 (by intro a9 m9 ci9 fs9 c9 z9; simp only [List.mem_cons, List.not_mem_nil, or_false] at m9; rcases m9 with rfl | rfl <;> first | (rw [hb2] at z9; cases z9; omega) | (rw [hva2] at z9; cases z9))
    obtain ⟨hb9, f9, hva9, hfa9⟩ := id hB9
    refine v_iload_n (pc' := 30) F dX6_pop_29 rfl (j := 1) rfl rfl ?_
    have hO2 : wOk ((-1, pc) :: os j) := ⟨hO1.1, hpc.1, hpc.2, fun _ z => c0 (by rw [hqf.1, z]; rfl), fun z => absurd rfl z⟩
    refine v_callV (pc' := 33) (rt := (some .int)) (mcc := 11) (msc := 33) (As := [.int (nI j)]) (st := []) F (fun l => c_X0_makeByPop G z0 l hn64 hB9 hj ((hD.x j hj).pv pv9) hO2 hO1.2 hpc.2) gX6_pop_X0_makeByPop rfl hv_X0_makeByPop (by decide) (by decide) hb9 rfl rfl rfl (Nat.le_of_ble_eq_true rfl) (by omega) (by omega) dX6_pop_30 rfl (fun v7 h6 hq => ?_)
    obtain ⟨rfl, w9, hw9, hB4, hV4, hf4⟩ := hq
    obtain ⟨hb4, f4, hva4, hfa4⟩ := id hB4
    refine v_istore_n (pc' := 34) (i := 2) (L' := [(2, .int (nI n)), (0, .ref x), (1, .int (nI j))]) F dX6_pop_33 rfl (by decide) rfl rfl ?_
    refine v_aload_n (pc' := 35) F dX6_pop_34 rfl (j := 1) rfl rfl ?_
    have g8 := hf9 _ _ (gnc (g_neC hx hb2 (by decide)) (gnc (g_neA hx hva2) gn0)) hx
    have g9 := hf4 _ _ (gnc (g_neC g8 hb9 (by decide)) (gnc (g_neA g8 hva9) gn0)) g8
    have g10 := hf9 _ _ (gnc (Ne.symm (g_neA hb2 hbks)) (gnc (g_neL hbks hva2 (by decide)) gn0)) hbks
    have g11 := hf4 _ _ (gnc (Ne.symm (g_neA hb9 g10)) (gnc (g_neL g10 hva9 (by decide)) gn0)) g10
    refine v_callV (pc' := 38) (rt := none) (mcc := 0) (msc := 0) (As := []) (st := []) F (fun l => c_X6_keepDraft G z0 l ⟨g9, fb, g11, hfb⟩ hc hu) gX6_pop_X6_keepDraft rfl hv_X6_keepDraft (by decide) (by decide) g9 rfl rfl rfl (Nat.le_of_ble_eq_true rfl) (by omega) (by omega) dX6_pop_35 rfl (fun v13 h12 hq => ?_)
    obtain ⟨rfl, hX5, hf5⟩ := hq
    obtain ⟨hx5, -⟩ := id hX5
    have pv5 := gfr.pv hf5 (by intro a9 m9 ci9 fs9 c9 z9; rw [List.mem_singleton.mp m9, g9] at z9; cases z9; omega)
    refine v_iload_n (pc' := 39) F dX6_pop_38 rfl (j := 0) rfl rfl ?_
    have fr14 : gfr [x, bk ((cur + 1) % 10), va2] h h12 := (gfr.t (gfr.mono hf9 (by intro q9 z9 m9; apply z9; simp only [List.mem_cons, List.not_mem_nil, or_false] at m9 ⊢; omega)) (gfr.t (gfr.mono hf4 (by intro q9 z9 m9; apply z9; simp only [List.mem_cons, List.not_mem_nil, or_false] at m9 ⊢; omega)) (gfr.mono hf5 (by intro q9 z9 m9; apply z9; simp only [List.mem_cons, List.not_mem_nil, or_false] at m9 ⊢; omega))))
    have hn0 : h w9 = none := by
      cases hz : h w9 with
      | none => rfl
      | some e9 =>
        exfalso
        by_cases m9 : w9 ∈ [bk ((cur + 1) % 10), va2]
        · simp only [List.mem_cons, List.not_mem_nil, or_false] at m9
          rcases m9 with rfl | rfl
          · rw [hb9] at hw9; cases hw9
          · rw [hva9] at hw9; cases hw9
        · rw [hf9 _ _ m9 hz] at hw9; cases hw9
    have g15 := hf5 _ _ (gnc (g_neC hb4 g9 (by decide)) gn0) hb4
    have g16 := hf5 _ _ (gnc (Ne.symm (g_neA g9 hva4)) gn0) hva4
    exact v_iret F E (by omega) (by omega)  dX6_pop_39 ⟨j, hj, rfl, fun z => c0 (by rw [hqf.1, z]; rfl), hn64, w9, rfl, hn0, hX5, ⟨g15, _, g16, hfa4⟩, hV4.pv pv5, fr14⟩
  · have fr17 : gfr [rw, orw, oq] h h := gfr.rf
    exact v_throw F EX (E := "java/lang/IllegalStateException") (text := "no value") (num := 7) hv_th_RX6_208_210 m_X6_pop_c208 m_X6_pop_iniISE m_X6_pop_atISE (by decide +kernel) dX6_pop_11 rfl dX6_pop_14 rfl dX6_pop_15 rfl dX6_pop_17 rfl dX6_pop_20 (by decide) (Nat.le_of_ble_eq_true rfl) (by omega) (by omega) ⟨Or.inr ⟨rfl, ⟨j, hj, rfl⟩, fun z => (z j hj rfl).1 (List.length_eq_zero_iff.mp (by omega))⟩, ⟨⟨_, hrw⟩, ⟨_, horw⟩, _, _, _, _, hoq⟩, fr17⟩
theorem m_X6_drop_c208 : Cond.classLink RX6 208 "java/lang/IllegalStateException" ∈ wsX6_drop := by decide +kernel
theorem m_X6_drop_iniISE : Cond.initialized "java/lang/IllegalStateException" ∈ wsX6_drop := by decide +kernel
theorem m_X6_drop_atISE : ∀ w ∈ (vx_atS RX6 210 "java/lang/IllegalStateException" gNames).filter goodWord, w ∈ wsX6_drop := by decide +kernel
theorem k_X6_drop_6 : gCl wsX6_drop 6 RX6 TX6 10 := ⟨by decide +kernel, rfl⟩
theorem m_X6_drop_f22 : Cond.fieldLink RX6 22 "SteadyQueues" "books" "[LSteadyQueues$Book;" ∈ wsX6_drop := by decide +kernel
theorem m_X6_drop_f47 : Cond.fieldLink RX6 47 "SteadyQueues" "current" "I" ∈ wsX6_drop := by decide +kernel
theorem hv_X0_remove : yX0_remove.cls = RX0 ∧ yX0_remove.cls ≠ "java/lang/invoke/MethodHandle" ∧ yX0_remove.cls ≠ "java/lang/invoke/VarHandle" ∧ (parseMethodDescriptor yX0_remove.desc).map (fun d => d.parameters.length) = some 1 := by decide +kernel
theorem k_X6_drop_0 : gCl wsX6_drop 0 RX0 TX0 4 := ⟨by decide +kernel, rfl⟩
theorem m_X6_drop_f87 : Cond.fieldLink RX6 87 "SteadyQueues$Book" "count" "I" ∈ wsX6_drop := by decide +kernel
set_option maxHeartbeats 4000000 in
set_option maxRecDepth 100000 in
theorem c_X6_drop (G : gG) (z0 : Nat) (l : Launch) (hst : l.stackTraces = false) {h : gH} {x buf rd bks oq rw orw bl cur und : Nat} {off : Int32} {bk : Nat → Nat} {va n pc dr : Nat} {ad : Nat → Nat} {as : Nat → List Nat} {os : Nat → List mO} {va2 n2 pc2 dr2 : Nat} (ix : Int32) (hX : isX6 G h x buf rd bks oq rw orw bl off cur und bk) (hc : cur < 10) (hu : und ≤ 8) (hn : n ≤ 64) (hB : isBk G h (bk cur) va n pc dr ad) (hD : isDat h n ad as os) (hro : rw ≠ orw) (hsc : scr G h rw orw oq) (hbb : bk ((cur + 1) % 10) ≠ bk cur) (hvv : va2 ≠ va) (hB2 : h (bk ((cur + 1) % 10)) = some (.inr (0, [.ref va2, .int (nI n2), .int (nI pc2), .int (nI dr2)])) ∧ ∃ f2, h va2 = some (oV G 64 f2)) (hdr : dr < 65536) : gCX G z0 l yX6_drop wsX6_drop 7 112 [.ref x, .int ix] h (fun v h' => ∃ j n9, n = n9 + 1 ∧ j < n ∧ ix = nI j ∧ j ≠ 0 ∧ gsum (fun i => if (as i).head? = some (ad j) then 1 else 0) n = 0 ∧ v = some (.int (nI n9)) ∧ isX6 G h' x buf rd bks oq rw orw bl off ((cur + 1) % 10) (min 8 (und + 1)) bk ∧ isBk G h' (bk ((cur + 1) % 10)) va2 n9 pc (dr + 1) (fun i => if i < j then ad i else ad (i + 1)) ∧ gfr [x, bk ((cur + 1) % 10), va2] h h') (xPost G h rw orw oq (fun E => (E = "java/lang/IndexOutOfBoundsException" ∧ ¬ iR ix n) ∨ (E = "java/lang/IllegalStateException" ∧ iR ix n ∧ ¬ ∀ j, j < n → ix = nI j → j ≠ 0 ∧ gsum (fun i => if (as i).head? = some (ad j) then 1 else 0) n = 0))) 2 12 := by
  obtain ⟨hx, fb, hbks, hfb⟩ := id hX
  obtain ⟨hb, f, hva, hf⟩ := id hB
  obtain ⟨⟨f0, hrw⟩, ⟨g0, horw⟩, oa, ob, oc, od, hoq⟩ := id hsc
  obtain ⟨hb2, f2, hva2⟩ := id hB2
  refine gCX_of hst (cc := cX6_drop) (nL := 4) (ret := (some .int)) (by decide) rfl (Nat.le_of_ble_eq_true rfl) ?_
  intro X F E EX _
  change gF G z0 X cX6_drop 4 RX6 wsX6_drop (some .int) "drop" 7 112 _ _ at F
  show gV G z0 X 0 0 h 0 [(0, .ref x), (1, .int ix)] []
  refine v_aload_n (pc' := 1) F dX6_drop_0 rfl (j := 0) rfl rfl ?_
  refine v_iload_n (pc' := 2) F dX6_drop_1 rfl (j := 1) rfl rfl ?_
  refine v_callVX (pc' := 5) (rt := (some (.object "SteadyQueues$Version"))) (mcc := 1) (msc := 6) (As := [.int ix]) (st := []) F EX (fun l hst => c_X6_needVersion G z0 l hst ix hX hc hu hn hB) (fun E h' q => ⟨Or.inl ⟨q.2.1, q.2.2⟩, by rw [q.1]; exact hsc, by rw [q.1]; exact gfr.rf⟩) gX6_drop_X6_needVersion rfl hv_X6_needVersion (by decide) (by decide) hx rfl rfl rfl (Nat.le_of_ble_eq_true rfl) (by omega) (by omega) dX6_drop_2 rfl (fun v1 h hq => ?_)
  obtain ⟨j, hj, rfl, rfl, rfl⟩ := hq
  refine v_astore_n (pc' := 6) (i := 2) (L' := [(2, .ref (ad j)), (0, .ref x), (1, .int (nI j))]) F dX6_drop_5 rfl (by decide) rfl rfl ?_
  refine v_iload_n (pc' := 7) F dX6_drop_6 rfl (j := 2) rfl rfl ?_
  refine w_if_eq (tgt := 26) (pc' := 10) F (by omega) dX6_drop_7 (by decide) rfl (fun c1 => ?_) (fun c1 => ?_)
  · have fr2 : gfr [rw, orw, oq] h h := gfr.rf
    exact v_throw F EX (E := "java/lang/IllegalStateException") (text := "not to be dropped") (num := 10) hv_th_RX6_208_210 m_X6_drop_c208 m_X6_drop_iniISE m_X6_drop_atISE (by decide +kernel) dX6_drop_26 rfl dX6_drop_29 rfl dX6_drop_30 rfl dX6_drop_32 rfl dX6_drop_35 (by decide) (Nat.le_of_ble_eq_true rfl) (by omega) (by omega) ⟨Or.inr ⟨rfl, ⟨j, hj, rfl⟩, fun z => (z j hj rfl).1 c1⟩, ⟨⟨_, hrw⟩, ⟨_, horw⟩, _, _, _, _, hoq⟩, fr2⟩
  · refine v_aload_n (pc' := 11) F dX6_drop_10 rfl (j := 1) rfl rfl ?_
    refine v_getf (pc' := 14) (v := .ref bks) F k_X6_drop_6 hx 2 (by decide) m_X6_drop_f22 rfl dX6_drop_11 rfl ?_
    refine v_aload_n (pc' := 15) F dX6_drop_14 rfl (j := 1) rfl rfl ?_
    refine v_getf (pc' := 18) (v := .int (nI cur)) F k_X6_drop_6 hx 8 (by decide) m_X6_drop_f47 rfl dX6_drop_15 rfl ?_
    refine w_qald (pc' := 19) (v := some (bk cur)) F hbks (by omega) (by omega) (hfb cur (by omega)) dX6_drop_18 rfl ?_
    refine v_aload_n (pc' := 20) F dX6_drop_19 rfl (j := 0) rfl rfl ?_
    obtain ⟨fsj, hkj⟩ := (hD j hj).1.v.kindE
    have hch9 : gsum (fun i => if (as i).head? = some (ad j) then 1 else 0) n ≤ n * 1 := gsum_le (fun i _ => by split <;> omega)
    refine v_callV (pc' := 23) (rt := (some .int)) (mcc := 0) (msc := 0) (As := [.ref (ad j)]) (st := []) F (fun l => c_X0_childrenOf G z0 l (r := some (ad j)) hn hB hD.x hD.o) gX6_drop_X0_childrenOf rfl hv_X0_childrenOf (by decide) (by decide) hb rfl rfl rfl (Nat.le_of_ble_eq_true rfl) (by omega) (by omega) dX6_drop_20 rfl (fun v3 h hq => ?_)
    obtain ⟨rfl, rfl⟩ := hq
    refine w_if_le (tgt := 36) (pc' := 26) F (by omega) dX6_drop_23 (by decide) rfl (fun c2 => ?_) (fun c2 => ?_)
    · obtain ⟨n9, rfl⟩ : ∃ n9, n = n9 + 1 := ⟨n - 1, by omega⟩
      refine v_aload_n (pc' := 37) F dX6_drop_36 rfl (j := 1) rfl rfl ?_
      refine v_callV (pc' := 40) (rt := (some (.object "SteadyQueues$Book"))) (mcc := 0) (msc := 0) (As := []) (st := []) F (fun l => c_X6_freshDraft G z0 l ⟨hx, fb, hbks, hfb⟩ hc hu hn hB hbb hvv hB2 (fun j9 h9 => (hD j9 h9).1.v.kindE)) gX6_drop_X6_freshDraft rfl hv_X6_freshDraft (by decide) (by decide) hx rfl rfl rfl (Nat.le_of_ble_eq_true rfl) (by omega) (by omega) dX6_drop_37 rfl (fun v5 h4 hq => ?_)
      obtain ⟨rfl, hB9, hf9⟩ := hq
      have pv9 := gfr.pv hf9 (by intro a9 m9 ci9 fs9 c9 z9; simp only [List.mem_cons, List.not_mem_nil, or_false] at m9; rcases m9 with rfl | rfl <;> first | (rw [hb2] at z9; cases z9; omega) | (rw [hva2] at z9; cases z9))
      obtain ⟨hb9, f9, hva9, hfa9⟩ := id hB9
      refine v_astore_n (pc' := 41) (i := 3) (L' := [(3, .ref (bk ((cur + 1) % 10))), (2, .ref (ad j)), (0, .ref x), (1, .int (nI j))]) F dX6_drop_40 rfl (by decide) rfl rfl ?_
      refine v_aload_n (pc' := 42) F dX6_drop_41 rfl (j := 0) rfl rfl ?_
      refine v_iload_n (pc' := 43) F dX6_drop_42 rfl (j := 3) rfl rfl ?_
      refine v_callV (pc' := 46) (rt := none) (mcc := 0) (msc := 0) (As := [.int (nI j)]) (st := []) F (fun l => c_X0_remove G z0 l (by omega) hdr (by omega) hB9 (fun j9 h9 => ((hD j9 h9).1.pv pv9).v.kindE)) gX6_drop_X0_remove rfl hv_X0_remove (by decide) (by decide) hb9 rfl rfl rfl (Nat.le_of_ble_eq_true rfl) (by omega) (by omega) dX6_drop_43 rfl (fun v7 h6 hq => ?_)
      obtain ⟨rfl, hB4, hf4⟩ := hq
      obtain ⟨hb4, f4, hva4, hfa4⟩ := id hB4
      refine v_aload_n (pc' := 47) F dX6_drop_46 rfl (j := 2) rfl rfl ?_
      have g8 := hf9 _ _ (gnc (g_neC hx hb2 (by decide)) (gnc (g_neA hx hva2) gn0)) hx
      have g9 := hf4 _ _ (gnc (g_neC g8 hb9 (by decide)) (gnc (g_neA g8 hva9) gn0)) g8
      have g10 := hf9 _ _ (gnc (Ne.symm (g_neA hb2 hbks)) (gnc (g_neL hbks hva2 (by decide)) gn0)) hbks
      have g11 := hf4 _ _ (gnc (Ne.symm (g_neA hb9 g10)) (gnc (g_neL g10 hva9 (by decide)) gn0)) g10
      refine v_callV (pc' := 50) (rt := none) (mcc := 0) (msc := 0) (As := []) (st := []) F (fun l => c_X6_keepDraft G z0 l ⟨g9, fb, g11, hfb⟩ hc hu) gX6_drop_X6_keepDraft rfl hv_X6_keepDraft (by decide) (by decide) g9 rfl rfl rfl (Nat.le_of_ble_eq_true rfl) (by omega) (by omega) dX6_drop_47 rfl (fun v13 h12 hq => ?_)
      obtain ⟨rfl, hX5, hf5⟩ := hq
      obtain ⟨hx5, -⟩ := id hX5
      have pv5 := gfr.pv hf5 (by intro a9 m9 ci9 fs9 c9 z9; rw [List.mem_singleton.mp m9, g9] at z9; cases z9; omega)
      refine v_aload_n (pc' := 51) F dX6_drop_50 rfl (j := 0) rfl rfl ?_
      have g14 := hf5 _ _ (gnc (g_neC hb4 g9 (by decide)) gn0) hb4
      refine v_getf (pc' := 54) (v := .int (nI n9)) F k_X6_drop_0 g14 1 (by decide) m_X6_drop_f87 rfl dX6_drop_51 rfl ?_
      have fr15 : gfr [x, bk ((cur + 1) % 10), va2] h h12 := (gfr.t (gfr.mono hf9 (by intro q9 z9 m9; apply z9; simp only [List.mem_cons, List.not_mem_nil, or_false] at m9 ⊢; omega)) (gfr.t (gfr.mono hf4 (by intro q9 z9 m9; apply z9; simp only [List.mem_cons, List.not_mem_nil, or_false] at m9 ⊢; omega)) (gfr.mono hf5 (by intro q9 z9 m9; apply z9; simp only [List.mem_cons, List.not_mem_nil, or_false] at m9 ⊢; omega))))
      have g16 := hf5 _ _ (gnc (Ne.symm (g_neA g9 hva4)) gn0) hva4
      exact v_iret F E (by omega) (by omega)  dX6_drop_54 ⟨j, n9, rfl, hj, rfl, by omega, by omega, rfl, hX5, ⟨g14, _, g16, hfa4⟩, fr15⟩
    · have fr17 : gfr [rw, orw, oq] h h := gfr.rf
      exact v_throw F EX (E := "java/lang/IllegalStateException") (text := "not to be dropped") (num := 10) hv_th_RX6_208_210 m_X6_drop_c208 m_X6_drop_iniISE m_X6_drop_atISE (by decide +kernel) dX6_drop_26 rfl dX6_drop_29 rfl dX6_drop_30 rfl dX6_drop_32 rfl dX6_drop_35 (by decide) (Nat.le_of_ble_eq_true rfl) (by omega) (by omega) ⟨Or.inr ⟨rfl, ⟨j, hj, rfl⟩, fun z => absurd (z j hj rfl).2 (by omega)⟩, ⟨⟨_, hrw⟩, ⟨_, horw⟩, _, _, _, _, hoq⟩, fr17⟩
theorem m_X6_rule_c65 : Cond.classLink RX6 65 "java/lang/IllegalArgumentException" ∈ wsX6_rule := by decide +kernel
theorem m_X6_rule_iniIAE : Cond.initialized "java/lang/IllegalArgumentException" ∈ wsX6_rule := by decide +kernel
theorem m_X6_rule_atIAE : ∀ w ∈ (vx_atS RX6 69 "java/lang/IllegalArgumentException" gNames).filter goodWord, w ∈ wsX6_rule := by decide +kernel
theorem k_X6_rule_6 : gCl wsX6_rule 6 RX6 TX6 10 := ⟨by decide +kernel, rfl⟩
theorem m_X6_rule_f22 : Cond.fieldLink RX6 22 "SteadyQueues" "books" "[LSteadyQueues$Book;" ∈ wsX6_rule := by decide +kernel
theorem m_X6_rule_f47 : Cond.fieldLink RX6 47 "SteadyQueues" "current" "I" ∈ wsX6_rule := by decide +kernel
theorem k_X6_rule_0 : gCl wsX6_rule 0 RX0 TX0 4 := ⟨by decide +kernel, rfl⟩
theorem m_X6_rule_f175 : Cond.fieldLink RX6 175 "SteadyQueues$Book" "pace" "I" ∈ wsX6_rule := by decide +kernel
set_option maxHeartbeats 4000000 in
set_option maxRecDepth 100000 in
theorem c_X6_rule (G : gG) (z0 : Nat) (l : Launch) (hst : l.stackTraces = false) {h : gH} {x buf rd bks oq rw orw bl cur und : Nat} {off : Int32} {bk : Nat → Nat} {va n pc dr : Nat} {ad : Nat → Nat} {as : Nat → List Nat} {os : Nat → List mO} {va2 n2 pc2 dr2 : Nat} (w : Int32) (hX : isX6 G h x buf rd bks oq rw orw bl off cur und bk) (hc : cur < 10) (hu : und ≤ 8) (hn : n ≤ 64) (hB : isBk G h (bk cur) va n pc dr ad) (hD : isDat h n ad as os) (hro : rw ≠ orw) (hsc : scr G h rw orw oq) (hbb : bk ((cur + 1) % 10) ≠ bk cur) (hvv : va2 ≠ va) (hB2 : h (bk ((cur + 1) % 10)) = some (.inr (0, [.ref va2, .int (nI n2), .int (nI pc2), .int (nI dr2)])) ∧ ∃ f2, h va2 = some (oV G 64 f2)) : gCX G z0 l yX6_rule wsX6_rule 6 90 [.ref x, .int w] h (fun v h' => ∃ k, 2 ≤ k ∧ k ≤ 4 ∧ w = nI k ∧ v = some (.int (nI pc)) ∧ isX6 G h' x buf rd bks oq rw orw bl off ((cur + 1) % 10) (min 8 (und + 1)) bk ∧ isBk G h' (bk ((cur + 1) % 10)) va2 n k dr ad ∧ gfr [x, bk ((cur + 1) % 10), va2] h h') (xPost G h rw orw oq (fun E => E = "java/lang/IllegalArgumentException" ∧ ¬ ∃ k, 2 ≤ k ∧ k ≤ 4 ∧ w = nI k)) 1 6 := by
  obtain ⟨hx, fb, hbks, hfb⟩ := id hX
  obtain ⟨hb, f, hva, hf⟩ := id hB
  obtain ⟨⟨f0, hrw⟩, ⟨g0, horw⟩, oa, ob, oc, od, hoq⟩ := id hsc
  obtain ⟨hb2, f2, hva2⟩ := id hB2
  refine gCX_of hst (cc := cX6_rule) (nL := 3) (ret := (some .int)) (by decide) rfl (Nat.le_of_ble_eq_true rfl) ?_
  intro X F E EX _
  change gF G z0 X cX6_rule 3 RX6 wsX6_rule (some .int) "rule" 6 90 _ _ at F
  show gV G z0 X 0 0 h 0 [(0, .ref x), (1, .int w)] []
  refine v_iload_n (pc' := 1) F dX6_rule_0 rfl (j := 1) rfl rfl ?_
  refine v_iconst (pc' := 2) (v := nI 2) F dX6_rule_1 (by decide) rfl ?_
  rcases pk_ix w (n := 5) (by omega) with h1 | h1 | ⟨k, hk, rfl⟩
  · have h2 : w < nI 2 := Int32.lt_trans h1 (by decide)
    refine v_icmp_lt (tgt := 10) (pc' := 5) F dX6_rule_2 (by decide) rfl (fun _ => ?_) (fun c0 => absurd h2 c0)
    have fr1 : gfr [rw, orw, oq] h h := gfr.rf
    exact v_throw F EX (E := "java/lang/IllegalArgumentException") (text := "no such pace") (num := 11) hv_th_RX6_65_69 m_X6_rule_c65 m_X6_rule_iniIAE m_X6_rule_atIAE (by decide +kernel) dX6_rule_10 rfl dX6_rule_13 rfl dX6_rule_14 rfl dX6_rule_16 rfl dX6_rule_19 (by decide) (Nat.le_of_ble_eq_true rfl) (by omega) (by omega) ⟨⟨rfl, fun ⟨k9, a9, b9, e9⟩ => iR_neg (n := 5) (by omega) h1 ⟨k9, by omega, e9⟩⟩, ⟨⟨_, hrw⟩, ⟨_, horw⟩, _, _, _, _, hoq⟩, fr1⟩
  · refine v_icmp_lt (tgt := 10) (pc' := 5) F dX6_rule_2 (by decide) rfl (fun c1 => ?_) (fun c1 => ?_)
    · have fr2 : gfr [rw, orw, oq] h h := gfr.rf
      exact v_throw F EX (E := "java/lang/IllegalArgumentException") (text := "no such pace") (num := 11) hv_th_RX6_65_69 m_X6_rule_c65 m_X6_rule_iniIAE m_X6_rule_atIAE (by decide +kernel) dX6_rule_10 rfl dX6_rule_13 rfl dX6_rule_14 rfl dX6_rule_16 rfl dX6_rule_19 (by decide) (Nat.le_of_ble_eq_true rfl) (by omega) (by omega) ⟨⟨rfl, fun ⟨k9, a9, b9, e9⟩ => iR_ge (n := 5) (by omega) h1 ⟨k9, by omega, e9⟩⟩, ⟨⟨_, hrw⟩, ⟨_, horw⟩, _, _, _, _, hoq⟩, fr2⟩
    · refine v_iload_n (pc' := 6) F dX6_rule_5 rfl (j := 1) rfl rfl ?_
      refine v_iconst (pc' := 7) (v := nI 4) F dX6_rule_6 (by decide) rfl ?_
      refine v_icmp_le (tgt := 20) (pc' := 10) F dX6_rule_7 (by decide) rfl (fun c0 => absurd c0 (Int32.not_le.mpr (Int32.lt_of_lt_of_le (show nI 4 < nI 5 by decide) h1))) (fun _ => ?_)
      have fr3 : gfr [rw, orw, oq] h h := gfr.rf
      exact v_throw F EX (E := "java/lang/IllegalArgumentException") (text := "no such pace") (num := 11) hv_th_RX6_65_69 m_X6_rule_c65 m_X6_rule_iniIAE m_X6_rule_atIAE (by decide +kernel) dX6_rule_10 rfl dX6_rule_13 rfl dX6_rule_14 rfl dX6_rule_16 rfl dX6_rule_19 (by decide) (Nat.le_of_ble_eq_true rfl) (by omega) (by omega) ⟨⟨rfl, fun ⟨k9, a9, b9, e9⟩ => iR_ge (n := 5) (by omega) h1 ⟨k9, by omega, e9⟩⟩, ⟨⟨_, hrw⟩, ⟨_, horw⟩, _, _, _, _, hoq⟩, fr3⟩
  · refine w_icmp_lt (tgt := 10) (pc' := 5) F (by omega) (by omega) dX6_rule_2 (by decide) rfl (fun c1 => ?_) (fun c1 => ?_)
    · have fr4 : gfr [rw, orw, oq] h h := gfr.rf
      exact v_throw F EX (E := "java/lang/IllegalArgumentException") (text := "no such pace") (num := 11) hv_th_RX6_65_69 m_X6_rule_c65 m_X6_rule_iniIAE m_X6_rule_atIAE (by decide +kernel) dX6_rule_10 rfl dX6_rule_13 rfl dX6_rule_14 rfl dX6_rule_16 rfl dX6_rule_19 (by decide) (Nat.le_of_ble_eq_true rfl) (by omega) (by omega) ⟨⟨rfl, fun ⟨k9, a9, b9, e9⟩ => by have := (nI_eq (by omega) (by omega)).mp e9; omega⟩, ⟨⟨_, hrw⟩, ⟨_, horw⟩, _, _, _, _, hoq⟩, fr4⟩
    · have c1 : 2 ≤ k := by omega
      refine v_iload_n (pc' := 6) F dX6_rule_5 rfl (j := 1) rfl rfl ?_
      refine v_iconst (pc' := 7) (v := nI 4) F dX6_rule_6 (by decide) rfl ?_
      refine w_icmp_le (tgt := 20) (pc' := 10) F (by omega) (by omega) dX6_rule_7 (by decide) rfl (fun _ => ?_) (fun c0 => absurd c0 (by omega))
      refine v_aload_n (pc' := 21) F dX6_rule_20 rfl (j := 0) rfl rfl ?_
      refine v_getf (pc' := 24) (v := .ref bks) F k_X6_rule_6 hx 2 (by decide) m_X6_rule_f22 rfl dX6_rule_21 rfl ?_
      refine v_aload_n (pc' := 25) F dX6_rule_24 rfl (j := 0) rfl rfl ?_
      refine v_getf (pc' := 28) (v := .int (nI cur)) F k_X6_rule_6 hx 8 (by decide) m_X6_rule_f47 rfl dX6_rule_25 rfl ?_
      refine w_qald (pc' := 29) (v := some (bk cur)) F hbks (by omega) (by omega) (hfb cur (by omega)) dX6_rule_28 rfl ?_
      refine v_getf (pc' := 32) (v := .int (nI pc)) F k_X6_rule_0 hb 2 (by decide) m_X6_rule_f175 rfl dX6_rule_29 rfl ?_
      refine v_istore_n (pc' := 33) (i := 2) (L' := [(2, .int (nI pc)), (0, .ref x), (1, .int (nI k))]) F dX6_rule_32 rfl (by decide) rfl rfl ?_
      refine v_aload_n (pc' := 34) F dX6_rule_33 rfl (j := 1) rfl rfl ?_
      refine v_callV (pc' := 37) (rt := (some (.object "SteadyQueues$Book"))) (mcc := 0) (msc := 0) (As := []) (st := []) F (fun l => c_X6_freshDraft G z0 l ⟨hx, fb, hbks, hfb⟩ hc hu hn hB hbb hvv hB2 (fun j9 h9 => (hD j9 h9).1.v.kindE)) gX6_rule_X6_freshDraft rfl hv_X6_freshDraft (by decide) (by decide) hx rfl rfl rfl (Nat.le_of_ble_eq_true rfl) (by omega) (by omega) dX6_rule_34 rfl (fun v6 h5 hq => ?_)
      obtain ⟨rfl, hB9, hf9⟩ := hq
      have pv9 := gfr.pv hf9 (by intro a9 m9 ci9 fs9 c9 z9; simp only [List.mem_cons, List.not_mem_nil, or_false] at m9; rcases m9 with rfl | rfl <;> first | (rw [hb2] at z9; cases z9; omega) | (rw [hva2] at z9; cases z9))
      obtain ⟨hb9, f9, hva9, hfa9⟩ := id hB9
      refine v_iload_n (pc' := 38) F dX6_rule_37 rfl (j := 2) rfl rfl ?_
      refine w_putf (pc' := 41) F k_X6_rule_0 tyX0_ok nmX0 hb9 2 (by decide) m_X6_rule_f175 rfl  rfl rfl (show 2 < 4 by decide) [.ref va2, .int (nI n), .int (nI k), .int (nI dr)] rfl dX6_rule_38 rfl (fun h7 a8 f9 => ?_)
      refine v_aload_n (pc' := 42) F dX6_rule_41 rfl (j := 1) rfl rfl ?_
      have g10 := hf9 _ _ (gnc (g_neC hx hb2 (by decide)) (gnc (g_neA hx hva2) gn0)) hx
      have g11 := f9 _ _ (gnc (g_neC g10 hb9 (by decide)) gn0) g10
      have g12 := hf9 _ _ (gnc (Ne.symm (g_neA hb2 hbks)) (gnc (g_neL hbks hva2 (by decide)) gn0)) hbks
      have g13 := f9 _ _ (gnc (Ne.symm (g_neA hb9 g12)) gn0) g12
      have g14 := f9 _ _ (gnc (Ne.symm (g_neA hb9 hva9)) gn0) hva9
      refine v_callV (pc' := 45) (rt := none) (mcc := 0) (msc := 0) (As := []) (st := []) F (fun l => c_X6_keepDraft G z0 l ⟨g11, fb, g13, hfb⟩ hc hu) gX6_rule_X6_keepDraft rfl hv_X6_keepDraft (by decide) (by decide) g11 rfl rfl rfl (Nat.le_of_ble_eq_true rfl) (by omega) (by omega) dX6_rule_42 rfl (fun v16 h15 hq => ?_)
      obtain ⟨rfl, hX5, hf5⟩ := hq
      obtain ⟨hx5, -⟩ := id hX5
      have pv5 := gfr.pv hf5 (by intro a9 m9 ci9 fs9 c9 z9; rw [List.mem_singleton.mp m9, g11] at z9; cases z9; omega)
      refine v_iload_n (pc' := 46) F dX6_rule_45 rfl (j := 0) rfl rfl ?_
      have fr17 : gfr [x, bk ((cur + 1) % 10), va2] h h15 := (gfr.t (gfr.mono hf9 (by intro q9 z9 m9; apply z9; simp only [List.mem_cons, List.not_mem_nil, or_false] at m9 ⊢; omega)) (gfr.t (gfr.mono f9 (by intro q9 z9 m9; apply z9; simp only [List.mem_cons, List.not_mem_nil, or_false] at m9 ⊢; omega)) (gfr.mono hf5 (by intro q9 z9 m9; apply z9; simp only [List.mem_cons, List.not_mem_nil, or_false] at m9 ⊢; omega))))
      have g18 := hf5 _ _ (gnc (g_neC a8 g11 (by decide)) gn0) a8
      have g19 := hf5 _ _ (gnc (Ne.symm (g_neA g11 g14)) gn0) g14
      exact v_iret F E (by omega) (by omega)  dX6_rule_46 ⟨k, c1, by omega, rfl, rfl, hX5, ⟨g18, _, g19, hfa9⟩, fr17⟩
theorem k_X6_undo_6 : gCl wsX6_undo 6 RX6 TX6 10 := ⟨by decide +kernel, rfl⟩
theorem m_X6_undo_f50 : Cond.fieldLink RX6 50 "SteadyQueues" "undoable" "I" ∈ wsX6_undo := by decide +kernel
theorem m_X6_undo_f47 : Cond.fieldLink RX6 47 "SteadyQueues" "current" "I" ∈ wsX6_undo := by decide +kernel
set_option maxHeartbeats 4000000 in
set_option maxRecDepth 100000 in
theorem c_X6_undo (G : gG) (z0 : Nat) (l : Launch) {h : gH} {x buf rd bks oq rw orw bl cur und : Nat} {off : Int32} {bk : Nat → Nat} (hX : isX6 G h x buf rd bks oq rw orw bl off cur und bk) (hc : cur < 10) (hu : und ≤ 8) : gC G z0 l yX6_undo wsX6_undo 0 0 [.ref x] h (fun v h' => (und = 0 ∧ v = some (.int (-1)) ∧ h' = h) ∨ (0 < und ∧ v = some (.int (nI (und - 1))) ∧ isX6 G h' x buf rd bks oq rw orw bl off ((cur + 9) % 10) (und - 1) bk ∧ gfr [x] h h')) 0 0 := by
  obtain ⟨hx, fb, hbks, hfb⟩ := id hX
  refine gC_of (cc := cX6_undo) (nL := 1) (ret := (some .int)) (by decide) rfl (Nat.le_of_ble_eq_true rfl) ?_
  intro X F E _
  change gF G z0 X cX6_undo 1 RX6 wsX6_undo (some .int) "undo" 0 0 _ _ at F
  show gV G z0 X 0 0 h 0 [(0, .ref x)] []
  refine v_aload_n (pc' := 1) F dX6_undo_0 rfl (j := 0) rfl rfl ?_
  refine v_getf (pc' := 4) (v := .int (nI und)) F k_X6_undo_6 hx 9 (by decide) m_X6_undo_f50 rfl dX6_undo_1 rfl ?_
  refine w_if_ne (tgt := 9) (pc' := 7) F (by omega) dX6_undo_4 (by decide) rfl (fun c0 => ?_) (fun c0 => ?_)
  · refine v_aload_n (pc' := 10) F dX6_undo_9 rfl (j := 0) rfl rfl ?_
    refine v_aload_n (pc' := 11) F dX6_undo_10 rfl (j := 0) rfl rfl ?_
    refine v_getf (pc' := 14) (v := .int (nI cur)) F k_X6_undo_6 hx 8 (by decide) m_X6_undo_f47 rfl dX6_undo_11 rfl ?_
    refine v_bipush (pc' := 16) (v := nI 10) F dX6_undo_14 (by decide) rfl ?_
    refine v_iadd (pc' := 17) (v := nI (cur + 10)) F dX6_undo_16 (nI_add cur 10) rfl ?_
    refine v_iconst (pc' := 18) (v := nI 1) F dX6_undo_17 (by decide) rfl ?_
    refine v_isub (pc' := 19) (v := nI (cur + 9)) F dX6_undo_18 (g_subn (by omega) (by omega)) rfl ?_
    refine v_bipush (pc' := 21) (v := nI 10) F dX6_undo_19 (by decide) rfl ?_
    refine v_irem (pc' := 22) (v := nI ((cur + 9) % 10)) F dX6_undo_21 (nI_ne0 (by omega) (by omega)) (pk_rem (by omega) (by omega) (by omega)) rfl ?_
    refine w_putf (pc' := 25) F k_X6_undo_6 tyX6_ok nmX6 hx 8 (by decide) m_X6_undo_f47 rfl  rfl rfl (show 8 < 10 by decide) [.ref buf, .ref rd, .ref bks, .ref oq, .ref rw, .ref orw, .int (nI bl), .int off, .int (nI ((cur + 9) % 10)), .int (nI und)] rfl dX6_undo_22 rfl (fun h1 a2 f3 => ?_)
    refine v_aload_n (pc' := 26) F dX6_undo_25 rfl (j := 0) rfl rfl ?_
    refine v_dup (pc' := 27) F dX6_undo_26 rfl rfl ?_
    refine v_getf (pc' := 30) (v := .int (nI und)) F k_X6_undo_6 a2 9 (by decide) m_X6_undo_f50 rfl dX6_undo_27 rfl ?_
    refine v_iconst (pc' := 31) (v := nI 1) F dX6_undo_30 (by decide) rfl ?_
    refine v_isub (pc' := 32) (v := nI (und - 1)) F dX6_undo_31 (g_subn (by omega) (by omega)) rfl ?_
    refine w_putf (pc' := 35) F k_X6_undo_6 tyX6_ok nmX6 a2 9 (by decide) m_X6_undo_f50 rfl  rfl rfl (show 9 < 10 by decide) [.ref buf, .ref rd, .ref bks, .ref oq, .ref rw, .ref orw, .int (nI bl), .int off, .int (nI ((cur + 9) % 10)), .int (nI (und - 1))] rfl dX6_undo_32 rfl (fun h4 a5 f6 => ?_)
    refine v_aload_n (pc' := 36) F dX6_undo_35 rfl (j := 0) rfl rfl ?_
    refine v_getf (pc' := 39) (v := .int (nI (und - 1))) F k_X6_undo_6 a5 9 (by decide) m_X6_undo_f50 rfl dX6_undo_36 rfl ?_
    have fr7 : gfr [x] h h4 := (gfr.t f3 f6)
    have e9 : (cur + 10 - 1) % 10 = (cur + 9) % 10 := by omega
    have g8 := f3 _ _ (gnc ((g_neA hx hbks).symm) gn0) hbks
    have g9 := f6 _ _ (gnc ((g_neA hx hbks).symm) gn0) g8
    exact v_iret F E (by omega) (by omega)  dX6_undo_39 (Or.inr ⟨by omega, rfl, ⟨by rw [← e9]; exact a5, fb, g9, hfb⟩, fr7⟩)
  · refine v_iconst (pc' := 8) (v := (-1)) F dX6_undo_7 (by decide) rfl ?_
    exact v_iret F E (by omega) (by omega)  dX6_undo_8 (Or.inl ⟨c0, rfl, rfl⟩)

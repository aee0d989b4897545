theorem m_X7_laysListed_f82 : Cond.fieldLink RX7 82 "SteadyQueuesModel" "ok" "I" ∈ wsX7_laysListed := by decide +kernel
theorem gd_take {ys : List Int32} {k i : Nat} (h : i < k) : (ys.take k).getD i 0 = ys.getD i 0 := by
  rw [List.getD_eq_getElem?_getD, List.getD_eq_getElem?_getD, List.getElem?_take, if_pos h]
set_option maxHeartbeats 4000000 in
set_option maxRecDepth 100000 in
theorem c_X7_laysListed (G : gG) (z0 : Nat) (l : Launch) {h : gH} {m rows asd vals many way told oth lst text : Nat} {th now und fed len spot fa fat num frm may : Int32} {wm st : Int32} {g : Nat → Int32} {b : Nat} {xs : List Int32} {q : mQ} (hb : b < 64) (hm : h m = some (.inr (7, [.int th, .ref rows, .ref asd, .int now, .int und, .ref vals, .ref many, .int (nI q.2.2.1), .int (nI q.2.2.2.1), .int (nI q.2.2.2.2.1), .int (nI q.2.2.2.2.2.1), .int st, .ref way, .int wm, .ref told, .ref oth, .ref lst, .ref text, .int fed, .int len, .int spot, .int fa, .int fat, .int num, .int frm, .int may]))) (hq : isMq G h vals many q) (hJ : qJ b xs q) (hlst : h lst = some (oI G 128 g)) : gC G z0 l yX7_laysListed wsX7_laysListed 0 0 [.ref m] h (fun v h' => v = some (.int (nI xs.length)) ∧ ∃ g', h' lst = some (oI G 128 g') ∧ fHas g' 0 xs ∧ gfr [lst] h h') 0 0 := by
  obtain ⟨f, r, gl, hl, kd, ok, oF, nF, oR, nR⟩ := q
  obtain ⟨V, M, ls, hvals, hmany, hls, hT⟩ := hq
  have hJ0 := hJ
  obtain ⟨⟨g1, g2, g3, g4, g5⟩, j1, j2, j3, j4⟩ := hJ0
  simp only at j1 j2 j3 j4
  replace hm : h m = some (.inr (7, [.int th, .ref rows, .ref asd, .int now, .int und, .ref vals, .ref many, .int (nI gl), .int (nI hl), .int (nI kd), .int (nI ok), .int st, .ref way, .int wm, .ref told, .ref oth, .ref lst, .ref text, .int fed, .int len, .int spot, .int fa, .int fat, .int num, .int frm, .int may])) := hm
  change mdT ls f r (kd, ok, oF, nF, oR, nR) at hT
  obtain ⟨q0, q1, q2, -, q4, q5⟩ := hT
  change ls 4 = oR at q4
  change ls 5 = nR at q5
  have m0 := (hls 0 (by omega)).1
  rw [q0] at m0
  have m1 := (hls 1 (by omega)).1
  rw [q1] at m1
  have m4 := (hls 4 (by omega)).1
  rw [q4] at m4
  have m5 := (hls 5 (by omega)).1
  rw [q5] at m5
  have b0 := (hls 0 (by omega)).2.1
  rw [q0] at b0
  have b1 := (hls 1 (by omega)).2.1
  rw [q1] at b1
  have b4 := (hls 4 (by omega)).2.1
  rw [q4] at b4
  have b5 := (hls 5 (by omega)).2.1
  rw [q5] at b5
  have t0_ : ∀ i, i < f.length → V (f.length - 1 - i) = f.getD i 0 := fun i hi => by have := hls.top (L := 0) (k := i) (by omega) (by rw [q0]; exact hi); rw [q0] at this; simpa using this
  have t1_ : ∀ i, i < r.length → V (64 + i) = r.reverse.getD i 0 := fun i hi => by have := hls.bot (L := 1) (k := i) (by omega) (by rw [q1]; exact hi); rw [q1] at this; simpa using this
  have t4_ : ∀ i, i < oR.length → V (256 + i) = oR.reverse.getD i 0 := fun i hi => by have := hls.bot (L := 4) (k := i) (by omega) (by rw [q4]; exact hi); rw [q4] at this; simpa using this
  have t5_ : ∀ i, i < nR.length → V (320 + (nR.length - 1 - i)) = nR.getD i 0 := fun i hi => by have := hls.top (L := 5) (k := i) (by omega) (by rw [q5]; exact hi); rw [q5] at this; simpa using this
  refine gC_of (cc := cX7_laysListed) (nL := 4) (ret := (some .int)) (by decide) rfl (Nat.le_of_ble_eq_true rfl) ?_
  intro X F E _
  change gF G z0 X cX7_laysListed 4 RX7 wsX7_laysListed (some .int) "laysListed" 0 0 _ _ at F
  show gV G z0 X 0 0 h 0 [(0, .ref m)] []
  rcases g5 with ⟨rfl, rfl, rfl, rfl, rfl, rfl, h6, hxs⟩ | ⟨rfl, h6, h7, h8, h9, h10, h11, hxs⟩ | ⟨rfl, h6, h7, h8, rfl, rfl, h11, h12, hxs⟩ | ⟨rfl, h6, h7, -⟩
  · skip
    have h0l : ([] ++ f : List Int32).length = f.length := by rw [List.nil_append]
    have h4l : f.length + r.length < 64 := by omega
    refine v_iconst (pc' := 1) (v := nI 0) F dX7_laysListed_0 (by decide) rfl ?_
    refine v_istore_n (pc' := 2) (i := 1) (L' := [(1, .int (nI 0)), (0, .ref m)]) F dX7_laysListed_1 rfl (by decide) rfl rfl ?_
    refine v_aload_n (pc' := 3) F dX7_laysListed_2 rfl (j := 1) rfl rfl ?_
    refine v_getf (pc' := 6) (v := .int (nI 0)) F k_X7_laysListed_7 hm 9 (by decide) m_X7_laysListed_f79 rfl dX7_laysListed_3 rfl ?_
    refine v_iconst (pc' := 7) (v := nI 2) F dX7_laysListed_6 (by decide) rfl ?_
    refine w_icmp_ne (tgt := 17) (pc' := 10) F (by omega) (by omega) dX7_laysListed_7 (by decide) rfl (fun _ => ?_) (fun c0 => absurd c0 (by omega))
    refine v_aload_n (pc' := 18) F dX7_laysListed_17 rfl (j := 1) rfl rfl ?_
    refine v_getf (pc' := 21) (v := .ref many) F k_X7_laysListed_7 hm 6 (by decide) m_X7_laysListed_f19 rfl dX7_laysListed_18 rfl ?_
    refine v_iconst (pc' := 22) (v := nI 0) F dX7_laysListed_21 (by decide) rfl ?_
    refine w_iald (pc' := 23) (v := nI f.length) F hmany (by omega) (by omega) m0 dX7_laysListed_22 rfl ?_
    refine v_istore_n (pc' := 24) (i := 2) (L' := [(2, .int (nI f.length)), (1, .int (nI 0)), (0, .ref m)]) F dX7_laysListed_23 rfl (by decide) rfl rfl ?_
    refine v_iconst (pc' := 25) (v := nI 0) F dX7_laysListed_24 (by decide) rfl ?_
    refine v_istore_n (pc' := 26) (i := 3) (L' := [(3, .int (nI 0)), (2, .int (nI f.length)), (1, .int (nI 0)), (0, .ref m)]) F dX7_laysListed_25 rfl (by decide) rfl rfl ?_
    refine v_sub (L' := [(3, .int (nI 0)), (2, .int (nI f.length)), (1, .int (nI 0)), (0, .ref m)]) [0, 1, 2, 3] rfl ?_
    refine lp1_X7_laysListed (l := l) (cells := 0) (slots := 0) (d := []) (ys := f) (k := 0) (N := f.length) (mo := f.length) F (by omega) (by omega) hm hvals hmany hlst (fun j hj => absurd hj (by simp)) (by rw [List.length_nil]; omega) m0 (Nat.le_refl _) b0 (by omega) (fun i hi => by rw [Nat.zero_add]; exact t0_ i hi) (fun hA gA lA dA frA => ?_)
    show gV G z0 X 0 0 hA 63 [(3, .int (nI f.length)), (2, .int (nI f.length)), (1, .int (nI (([] ++ f).length))), (0, .ref m)] []
    refine v_iconst (pc' := 64) (v := nI 0) F dX7_laysListed_63 (by decide) rfl ?_
    refine v_istore_n (pc' := 65) (i := 3) (L' := [(3, .int (nI 0)), (2, .int (nI f.length)), (1, .int (nI (([] ++ f).length))), (0, .ref m)]) F dX7_laysListed_64 rfl (by decide) rfl rfl ?_
    refine v_aload_n (pc' := 66) F dX7_laysListed_65 rfl (j := 3) rfl rfl ?_
    have g1 := frA _ _ (gnc (g_neA hm hlst) gn0) hm
    refine v_getf (pc' := 69) (v := .int (nI 0)) F k_X7_laysListed_7 g1 9 (by decide) m_X7_laysListed_f79 rfl dX7_laysListed_66 rfl ?_
    refine v_iconst (pc' := 70) (v := nI 1) F dX7_laysListed_69 (by decide) rfl ?_
    refine w_icmp_ne (tgt := 108) (pc' := 73) F (by omega) (by omega) dX7_laysListed_70 (by decide) rfl (fun _ => ?_) (fun c0 => absurd c0 (by omega))
    refine v_aload_n (pc' := 109) F dX7_laysListed_108 rfl (j := 3) rfl rfl ?_
    refine v_getf (pc' := 112) (v := .ref many) F k_X7_laysListed_7 g1 6 (by decide) m_X7_laysListed_f19 rfl dX7_laysListed_109 rfl ?_
    refine v_iconst (pc' := 113) (v := nI 5) F dX7_laysListed_112 (by decide) rfl ?_
    have g2 := frA _ _ (gnc (g_neL hmany hlst (by decide)) gn0) hmany
    refine w_iald (pc' := 114) (v := nI 0) F g2 (by omega) (by omega) m5 dX7_laysListed_113 rfl ?_
    refine v_iconst (pc' := 115) (v := nI 1) F dX7_laysListed_114 (by decide) rfl ?_
    refine v_isub (pc' := 116) (v := (nI 0) - (nI 1)) F dX7_laysListed_115 rfl rfl ?_
    refine v_istore_n (pc' := 117) (i := 3) (L' := [(3, .int ((nI 0) - (nI 1))), (2, .int (nI f.length)), (1, .int (nI (([] ++ f).length))), (0, .ref m)]) F dX7_laysListed_116 rfl (by decide) rfl rfl ?_
    refine v_aload_n (pc' := 118) F dX7_laysListed_117 rfl (j := 3) rfl rfl ?_
    refine v_getf (pc' := 121) (v := .int (nI 0)) F k_X7_laysListed_7 g1 9 (by decide) m_X7_laysListed_f79 rfl dX7_laysListed_118 rfl ?_
    refine w_if_eq (tgt := 153) (pc' := 124) F (by omega) dX7_laysListed_121 (by decide) rfl (fun _ => ?_) (fun c0 => absurd c0 (by omega))
    refine v_iconst (pc' := 154) (v := nI 0) F dX7_laysListed_153 (by decide) rfl ?_
    refine v_istore_n (pc' := 155) (i := 3) (L' := [(3, .int (nI 0)), (2, .int (nI f.length)), (1, .int (nI (([] ++ f).length))), (0, .ref m)]) F dX7_laysListed_154 rfl (by decide) rfl rfl ?_
    refine v_sub (L' := [(3, .int (nI 0)), (2, .int (nI f.length)), (1, .int (nI (([] ++ f).length))), (0, .ref m)]) [0, 1, 2, 3] rfl ?_
    have g3 := frA _ _ (gnc (g_neL hvals hlst (by decide)) gn0) hvals
    refine lp4_X7_laysListed (l := l) (cells := 0) (slots := 0) (d := ([] ++ f)) (ys := r.reverse) (k := 0) (N := r.length) (mo := f.length) F (by omega) (by omega) g1 g3 g2 lA dA (by simp only [List.length_append, List.length_reverse, List.length_cons] at *; omega) m1 b1 (by rw [List.length_reverse]; omega) (fun i hi => by rw [Nat.zero_add]; exact t1_ i (by rwa [List.length_reverse] at hi)) (fun hE gE lE dE frE => ?_)
    show gV G z0 X 0 0 hE 189 [(3, .int (nI r.length)), (2, .int (nI f.length)), (1, .int (nI ((([] ++ f) ++ r.reverse).length))), (0, .ref m)] []
    have fr4 : gfr [lst] h hE := (gfr.t frA frE)
    have ex : xs = ([] ++ f) ++ r.reverse := by rw [hxs]; simp
    rw [← ex] at dE ⊢
    refine v_iload_n (pc' := 190) F dX7_laysListed_189 rfl (j := 2) rfl rfl ?_
    exact v_iret F E (by omega) (by omega)  dX7_laysListed_190 ⟨rfl, gE, lE, dE, fr4⟩
  · skip
    have h0l : ([] ++ f : List Int32).length = f.length := by rw [List.nil_append]
    have h4l : f.length + oR.length + nR.length + r.length < 64 := by omega
    refine v_iconst (pc' := 1) (v := nI 0) F dX7_laysListed_0 (by decide) rfl ?_
    refine v_istore_n (pc' := 2) (i := 1) (L' := [(1, .int (nI 0)), (0, .ref m)]) F dX7_laysListed_1 rfl (by decide) rfl rfl ?_
    refine v_aload_n (pc' := 3) F dX7_laysListed_2 rfl (j := 1) rfl rfl ?_
    refine v_getf (pc' := 6) (v := .int (nI 1)) F k_X7_laysListed_7 hm 9 (by decide) m_X7_laysListed_f79 rfl dX7_laysListed_3 rfl ?_
    refine v_iconst (pc' := 7) (v := nI 2) F dX7_laysListed_6 (by decide) rfl ?_
    refine w_icmp_ne (tgt := 17) (pc' := 10) F (by omega) (by omega) dX7_laysListed_7 (by decide) rfl (fun _ => ?_) (fun c0 => absurd c0 (by omega))
    refine v_aload_n (pc' := 18) F dX7_laysListed_17 rfl (j := 1) rfl rfl ?_
    refine v_getf (pc' := 21) (v := .ref many) F k_X7_laysListed_7 hm 6 (by decide) m_X7_laysListed_f19 rfl dX7_laysListed_18 rfl ?_
    refine v_iconst (pc' := 22) (v := nI 0) F dX7_laysListed_21 (by decide) rfl ?_
    refine w_iald (pc' := 23) (v := nI f.length) F hmany (by omega) (by omega) m0 dX7_laysListed_22 rfl ?_
    refine v_istore_n (pc' := 24) (i := 2) (L' := [(2, .int (nI f.length)), (1, .int (nI 0)), (0, .ref m)]) F dX7_laysListed_23 rfl (by decide) rfl rfl ?_
    refine v_iconst (pc' := 25) (v := nI 0) F dX7_laysListed_24 (by decide) rfl ?_
    refine v_istore_n (pc' := 26) (i := 3) (L' := [(3, .int (nI 0)), (2, .int (nI f.length)), (1, .int (nI 0)), (0, .ref m)]) F dX7_laysListed_25 rfl (by decide) rfl rfl ?_
    refine v_sub (L' := [(3, .int (nI 0)), (2, .int (nI f.length)), (1, .int (nI 0)), (0, .ref m)]) [0, 1, 2, 3] rfl ?_
    refine lp1_X7_laysListed (l := l) (cells := 0) (slots := 0) (d := []) (ys := f) (k := 0) (N := f.length) (mo := f.length) F (by omega) (by omega) hm hvals hmany hlst (fun j hj => absurd hj (by simp)) (by rw [List.length_nil]; omega) m0 (Nat.le_refl _) b0 (by omega) (fun i hi => by rw [Nat.zero_add]; exact t0_ i hi) (fun hA gA lA dA frA => ?_)
    show gV G z0 X 0 0 hA 63 [(3, .int (nI f.length)), (2, .int (nI f.length)), (1, .int (nI (([] ++ f).length))), (0, .ref m)] []
    refine v_iconst (pc' := 64) (v := nI 0) F dX7_laysListed_63 (by decide) rfl ?_
    refine v_istore_n (pc' := 65) (i := 3) (L' := [(3, .int (nI 0)), (2, .int (nI f.length)), (1, .int (nI (([] ++ f).length))), (0, .ref m)]) F dX7_laysListed_64 rfl (by decide) rfl rfl ?_
    refine v_sub (L' := [(3, .int (nI 0)), (2, .int (nI f.length)), (1, .int (nI (([] ++ f).length))), (0, .ref m)]) [0, 1, 2, 3] rfl ?_
    have g5 := frA _ _ (gnc (g_neA hm hlst) gn0) hm
    have g6 := frA _ _ (gnc (g_neL hvals hlst (by decide)) gn0) hvals
    have g7 := frA _ _ (gnc (g_neL hmany hlst (by decide)) gn0) hmany
    refine lp2_X7_laysListed (l := l) (cells := 0) (slots := 0) (d := ([] ++ f)) (ys := oR.reverse) (k := 0) (N := oR.length) (mo := f.length) F (by omega) (by omega) g5 g6 g7 lA dA (by rw [List.length_reverse, h0l]; omega) rfl m4 b4 (by rw [List.length_reverse]; omega) (fun i hi => by rw [Nat.zero_add]; exact t4_ i (by rwa [List.length_reverse] at hi)) (fun hB gB lB dB frB => ?_)
    show gV G z0 X 0 0 hB 108 [(3, .int (nI oR.length)), (2, .int (nI f.length)), (1, .int (nI ((([] ++ f) ++ oR.reverse).length))), (0, .ref m)] []
    have hdl : (([] ++ f) ++ oR.reverse).length = f.length + oR.length := by rw [List.length_append, List.length_reverse, List.nil_append]
    refine v_aload_n (pc' := 109) F dX7_laysListed_108 rfl (j := 3) rfl rfl ?_
    have g8 := frB _ _ (gnc (g_neA g5 lA) gn0) g5
    refine v_getf (pc' := 112) (v := .ref many) F k_X7_laysListed_7 g8 6 (by decide) m_X7_laysListed_f19 rfl dX7_laysListed_109 rfl ?_
    refine v_iconst (pc' := 113) (v := nI 5) F dX7_laysListed_112 (by decide) rfl ?_
    have g9 := frB _ _ (gnc (g_neL g7 lA (by decide)) gn0) g7
    refine w_iald (pc' := 114) (v := nI nR.length) F g9 (by omega) (by omega) m5 dX7_laysListed_113 rfl ?_
    refine v_iconst (pc' := 115) (v := nI 1) F dX7_laysListed_114 (by decide) rfl ?_
    cases nR with
    | nil =>
      simp only [List.length_nil] at *
      show gV G z0 X 0 0 hB 115 [(3, .int (nI oR.length)), (2, .int (nI f.length)), (1, .int (nI ((([] ++ f) ++ oR.reverse).length))), (0, .ref m)] [.int (nI 1), .int (nI 0)]
      refine v_isub (pc' := 116) (v := (-1)) F dX7_laysListed_115 (by decide) rfl ?_
      refine v_istore_n (pc' := 117) (i := 3) (L' := [(3, .int (-1)), (2, .int (nI f.length)), (1, .int (nI ((([] ++ f) ++ oR.reverse).length))), (0, .ref m)]) F dX7_laysListed_116 rfl (by decide) rfl rfl ?_
      refine v_aload_n (pc' := 118) F dX7_laysListed_117 rfl (j := 3) rfl rfl ?_
      refine v_getf (pc' := 121) (v := .int (nI 1)) F k_X7_laysListed_7 g8 9 (by decide) m_X7_laysListed_f79 rfl dX7_laysListed_118 rfl ?_
      refine w_if_eq (tgt := 153) (pc' := 124) F (by omega) dX7_laysListed_121 (by decide) rfl (fun c0 => absurd c0 (by omega)) (fun _ => ?_)
      refine v_iload_n (pc' := 125) F dX7_laysListed_124 rfl (j := 0) rfl rfl ?_
      refine v_if_lt (tgt := 153) (pc' := 128) F dX7_laysListed_125 (by decide) rfl (fun _ => ?_) (fun c0 => absurd (by decide) c0)
      refine v_iconst (pc' := 154) (v := nI 0) F dX7_laysListed_153 (by decide) rfl ?_
      refine v_istore_n (pc' := 155) (i := 3) (L' := [(3, .int (nI 0)), (2, .int (nI f.length)), (1, .int (nI ((([] ++ f) ++ oR.reverse).length))), (0, .ref m)]) F dX7_laysListed_154 rfl (by decide) rfl rfl ?_
      refine v_sub (L' := [(3, .int (nI 0)), (2, .int (nI f.length)), (1, .int (nI ((([] ++ f) ++ oR.reverse).length))), (0, .ref m)]) [0, 1, 2, 3] rfl ?_
      have g10 := frB _ _ (gnc (g_neL g6 lA (by decide)) gn0) g6
      refine lp4_X7_laysListed (l := l) (cells := 0) (slots := 0) (d := (([] ++ f) ++ oR.reverse)) (ys := r.reverse) (k := 0) (N := r.length) (mo := f.length) F (by omega) (by omega) g8 g10 g9 lB dB (by simp only [List.length_append, List.length_reverse, List.length_cons] at *; omega) m1 b1 (by rw [List.length_reverse]; omega) (fun i hi => by rw [Nat.zero_add]; exact t1_ i (by rwa [List.length_reverse] at hi)) (fun hE gE lE dE frE => ?_)
      show gV G z0 X 0 0 hE 189 [(3, .int (nI r.length)), (2, .int (nI f.length)), (1, .int (nI (((([] ++ f) ++ oR.reverse) ++ r.reverse).length))), (0, .ref m)] []
      have fr11 : gfr [lst] h hE := (gfr.t frA (gfr.t frB frE))
      have ex : xs = (([] ++ f) ++ oR.reverse) ++ r.reverse := by rw [hxs]; simp
      rw [← ex] at dE ⊢
      refine v_iload_n (pc' := 190) F dX7_laysListed_189 rfl (j := 2) rfl rfl ?_
      exact v_iret F E (by omega) (by omega)  dX7_laysListed_190 ⟨rfl, gE, lE, dE, fr11⟩
    | cons y ys =>
      have hyl : (y :: ys).length = ys.length + 1 := rfl
      rw [hyl] at m5 b5 h4l
      show gV G z0 X 0 0 hB 115 [(3, .int (nI oR.length)), (2, .int (nI f.length)), (1, .int (nI ((([] ++ f) ++ oR.reverse).length))), (0, .ref m)] [.int (nI 1), .int (nI (ys.length + 1))]
      refine v_isub (pc' := 116) (v := nI ys.length) F dX7_laysListed_115 (g_subn (by omega) (by omega)) rfl ?_
      refine v_istore_n (pc' := 117) (i := 3) (L' := [(3, .int (nI ys.length)), (2, .int (nI f.length)), (1, .int (nI ((([] ++ f) ++ oR.reverse).length))), (0, .ref m)]) F dX7_laysListed_116 rfl (by decide) rfl rfl ?_
      refine v_sub (L' := [(3, .int (nI ys.length)), (2, .int (nI f.length)), (1, .int (nI ((([] ++ f) ++ oR.reverse).length))), (0, .ref m)]) [0, 1, 2, 3] rfl ?_
      have g12 := frB _ _ (gnc (g_neL g6 lA (by decide)) gn0) g6
      refine lp3_X7_laysListed (l := l) (cells := 0) (slots := 0) (d := (([] ++ f) ++ oR.reverse)) (y := y) (ys := ys) (mo := f.length) F (by omega) (by omega) g8 g12 g9 lB dB (by rw [hyl, hdl]; omega) (by omega) (by omega) (fun i hi => by have := t5_ i hi; rw [hyl, Nat.add_sub_cancel] at this; exact this) (fun hC gC lC dC frC => ?_)
      show gV G z0 X 0 0 hC 153 [(3, .int (-1)), (2, .int (nI f.length)), (1, .int (nI (((([] ++ f) ++ oR.reverse) ++ y :: ys).length))), (0, .ref m)] []
      refine v_iconst (pc' := 154) (v := nI 0) F dX7_laysListed_153 (by decide) rfl ?_
      refine v_istore_n (pc' := 155) (i := 3) (L' := [(3, .int (nI 0)), (2, .int (nI f.length)), (1, .int (nI (((([] ++ f) ++ oR.reverse) ++ y :: ys).length))), (0, .ref m)]) F dX7_laysListed_154 rfl (by decide) rfl rfl ?_
      refine v_sub (L' := [(3, .int (nI 0)), (2, .int (nI f.length)), (1, .int (nI (((([] ++ f) ++ oR.reverse) ++ y :: ys).length))), (0, .ref m)]) [0, 1, 2, 3] rfl ?_
      have g13 := frC _ _ (gnc (g_neA g8 lB) gn0) g8
      have g14 := frC _ _ (gnc (g_neL g12 lB (by decide)) gn0) g12
      have g15 := frC _ _ (gnc (g_neL g9 lB (by decide)) gn0) g9
      refine lp4_X7_laysListed (l := l) (cells := 0) (slots := 0) (d := ((([] ++ f) ++ oR.reverse) ++ y :: ys)) (ys := r.reverse) (k := 0) (N := r.length) (mo := f.length) F (by omega) (by omega) g13 g14 g15 lC dC (by simp only [List.length_append, List.length_reverse, List.length_cons] at *; omega) m1 b1 (by rw [List.length_reverse]; omega) (fun i hi => by rw [Nat.zero_add]; exact t1_ i (by rwa [List.length_reverse] at hi)) (fun hE gE lE dE frE => ?_)
      show gV G z0 X 0 0 hE 189 [(3, .int (nI r.length)), (2, .int (nI f.length)), (1, .int (nI ((((([] ++ f) ++ oR.reverse) ++ y :: ys) ++ r.reverse).length))), (0, .ref m)] []
      have fr16 : gfr [lst] h hE := (gfr.t frA (gfr.t frB (gfr.t frC frE)))
      have ex : xs = ((([] ++ f) ++ oR.reverse) ++ y :: ys) ++ r.reverse := by rw [hxs]; simp
      rw [← ex] at dE ⊢
      refine v_iload_n (pc' := 190) F dX7_laysListed_189 rfl (j := 2) rfl rfl ?_
      exact v_iret F E (by omega) (by omega)  dX7_laysListed_190 ⟨rfl, gE, lE, dE, fr16⟩
  · skip
    have h0l : ([] ++ (f.take ok) : List Int32).length = ok := by rw [List.nil_append]; exact List.length_take_of_le h7
    have h4l : ok + nR.length + r.length < 64 := by omega
    refine v_iconst (pc' := 1) (v := nI 0) F dX7_laysListed_0 (by decide) rfl ?_
    refine v_istore_n (pc' := 2) (i := 1) (L' := [(1, .int (nI 0)), (0, .ref m)]) F dX7_laysListed_1 rfl (by decide) rfl rfl ?_
    refine v_aload_n (pc' := 3) F dX7_laysListed_2 rfl (j := 1) rfl rfl ?_
    refine v_getf (pc' := 6) (v := .int (nI 2)) F k_X7_laysListed_7 hm 9 (by decide) m_X7_laysListed_f79 rfl dX7_laysListed_3 rfl ?_
    refine v_iconst (pc' := 7) (v := nI 2) F dX7_laysListed_6 (by decide) rfl ?_
    refine w_icmp_ne (tgt := 17) (pc' := 10) F (by omega) (by omega) dX7_laysListed_7 (by decide) rfl (fun c0 => absurd c0 (by omega)) (fun _ => ?_)
    refine v_aload_n (pc' := 11) F dX7_laysListed_10 rfl (j := 1) rfl rfl ?_
    refine v_getf (pc' := 14) (v := .int (nI ok)) F k_X7_laysListed_7 hm 10 (by decide) m_X7_laysListed_f82 rfl dX7_laysListed_11 rfl ?_
    refine v_goto (tgt := 23) F dX7_laysListed_14 (by decide) ?_
    refine v_istore_n (pc' := 24) (i := 2) (L' := [(2, .int (nI ok)), (1, .int (nI 0)), (0, .ref m)]) F dX7_laysListed_23 rfl (by decide) rfl rfl ?_
    refine v_iconst (pc' := 25) (v := nI 0) F dX7_laysListed_24 (by decide) rfl ?_
    refine v_istore_n (pc' := 26) (i := 3) (L' := [(3, .int (nI 0)), (2, .int (nI ok)), (1, .int (nI 0)), (0, .ref m)]) F dX7_laysListed_25 rfl (by decide) rfl rfl ?_
    refine v_sub (L' := [(3, .int (nI 0)), (2, .int (nI ok)), (1, .int (nI 0)), (0, .ref m)]) [0, 1, 2, 3] rfl ?_
    have h0l_ : (f.take ok).length = ok := by rw [List.nil_append] at h0l; exact h0l
    refine lp1_X7_laysListed (l := l) (cells := 0) (slots := 0) (d := []) (ys := (f.take ok)) (k := 0) (N := f.length) (mo := ok) F (by omega) (by omega) hm hvals hmany hlst (fun j hj => absurd hj (by simp)) (by rw [List.length_nil, h0l_]; omega) m0 h7 b0 (by rw [h0l_]; omega) (fun i hi => by rw [Nat.zero_add]; rw [h0l_] at hi; rw [t0_ i (by omega), gd_take hi]) (fun hA gA lA dA frA => ?_)
    show gV G z0 X 0 0 hA 63 [(3, .int (nI ok)), (2, .int (nI ok)), (1, .int (nI (([] ++ (f.take ok)).length))), (0, .ref m)] []
    refine v_iconst (pc' := 64) (v := nI 0) F dX7_laysListed_63 (by decide) rfl ?_
    refine v_istore_n (pc' := 65) (i := 3) (L' := [(3, .int (nI 0)), (2, .int (nI ok)), (1, .int (nI (([] ++ (f.take ok)).length))), (0, .ref m)]) F dX7_laysListed_64 rfl (by decide) rfl rfl ?_
    refine v_aload_n (pc' := 66) F dX7_laysListed_65 rfl (j := 3) rfl rfl ?_
    have g17 := frA _ _ (gnc (g_neA hm hlst) gn0) hm
    refine v_getf (pc' := 69) (v := .int (nI 2)) F k_X7_laysListed_7 g17 9 (by decide) m_X7_laysListed_f79 rfl dX7_laysListed_66 rfl ?_
    refine v_iconst (pc' := 70) (v := nI 1) F dX7_laysListed_69 (by decide) rfl ?_
    refine w_icmp_ne (tgt := 108) (pc' := 73) F (by omega) (by omega) dX7_laysListed_70 (by decide) rfl (fun _ => ?_) (fun c0 => absurd c0 (by omega))
    refine v_aload_n (pc' := 109) F dX7_laysListed_108 rfl (j := 3) rfl rfl ?_
    refine v_getf (pc' := 112) (v := .ref many) F k_X7_laysListed_7 g17 6 (by decide) m_X7_laysListed_f19 rfl dX7_laysListed_109 rfl ?_
    refine v_iconst (pc' := 113) (v := nI 5) F dX7_laysListed_112 (by decide) rfl ?_
    have g18 := frA _ _ (gnc (g_neL hmany hlst (by decide)) gn0) hmany
    refine w_iald (pc' := 114) (v := nI nR.length) F g18 (by omega) (by omega) m5 dX7_laysListed_113 rfl ?_
    refine v_iconst (pc' := 115) (v := nI 1) F dX7_laysListed_114 (by decide) rfl ?_
    cases nR with
    | nil =>
      simp only [List.length_nil] at *
      show gV G z0 X 0 0 hA 115 [(3, .int (nI 0)), (2, .int (nI ok)), (1, .int (nI (([] ++ (f.take ok)).length))), (0, .ref m)] [.int (nI 1), .int (nI 0)]
      refine v_isub (pc' := 116) (v := (-1)) F dX7_laysListed_115 (by decide) rfl ?_
      refine v_istore_n (pc' := 117) (i := 3) (L' := [(3, .int (-1)), (2, .int (nI ok)), (1, .int (nI (([] ++ (f.take ok)).length))), (0, .ref m)]) F dX7_laysListed_116 rfl (by decide) rfl rfl ?_
      refine v_aload_n (pc' := 118) F dX7_laysListed_117 rfl (j := 3) rfl rfl ?_
      refine v_getf (pc' := 121) (v := .int (nI 2)) F k_X7_laysListed_7 g17 9 (by decide) m_X7_laysListed_f79 rfl dX7_laysListed_118 rfl ?_
      refine w_if_eq (tgt := 153) (pc' := 124) F (by omega) dX7_laysListed_121 (by decide) rfl (fun c0 => absurd c0 (by omega)) (fun _ => ?_)
      refine v_iload_n (pc' := 125) F dX7_laysListed_124 rfl (j := 0) rfl rfl ?_
      refine v_if_lt (tgt := 153) (pc' := 128) F dX7_laysListed_125 (by decide) rfl (fun _ => ?_) (fun c0 => absurd (by decide) c0)
      refine v_iconst (pc' := 154) (v := nI 0) F dX7_laysListed_153 (by decide) rfl ?_
      refine v_istore_n (pc' := 155) (i := 3) (L' := [(3, .int (nI 0)), (2, .int (nI ok)), (1, .int (nI (([] ++ (f.take ok)).length))), (0, .ref m)]) F dX7_laysListed_154 rfl (by decide) rfl rfl ?_
      refine v_sub (L' := [(3, .int (nI 0)), (2, .int (nI ok)), (1, .int (nI (([] ++ (f.take ok)).length))), (0, .ref m)]) [0, 1, 2, 3] rfl ?_
      have g19 := frA _ _ (gnc (g_neL hvals hlst (by decide)) gn0) hvals
      refine lp4_X7_laysListed (l := l) (cells := 0) (slots := 0) (d := ([] ++ (f.take ok))) (ys := r.reverse) (k := 0) (N := r.length) (mo := ok) F (by omega) (by omega) g17 g19 g18 lA dA (by simp only [List.length_append, List.length_reverse, List.length_cons] at *; omega) m1 b1 (by rw [List.length_reverse]; omega) (fun i hi => by rw [Nat.zero_add]; exact t1_ i (by rwa [List.length_reverse] at hi)) (fun hE gE lE dE frE => ?_)
      show gV G z0 X 0 0 hE 189 [(3, .int (nI r.length)), (2, .int (nI ok)), (1, .int (nI ((([] ++ (f.take ok)) ++ r.reverse).length))), (0, .ref m)] []
      have fr20 : gfr [lst] h hE := (gfr.t frA frE)
      have ex : xs = ([] ++ (f.take ok)) ++ r.reverse := by rw [hxs]; simp
      rw [← ex] at dE ⊢
      refine v_iload_n (pc' := 190) F dX7_laysListed_189 rfl (j := 2) rfl rfl ?_
      exact v_iret F E (by omega) (by omega)  dX7_laysListed_190 ⟨rfl, gE, lE, dE, fr20⟩
    | cons y ys =>
      have hyl : (y :: ys).length = ys.length + 1 := rfl
      rw [hyl] at m5 b5 h4l
      show gV G z0 X 0 0 hA 115 [(3, .int (nI 0)), (2, .int (nI ok)), (1, .int (nI (([] ++ (f.take ok)).length))), (0, .ref m)] [.int (nI 1), .int (nI (ys.length + 1))]
      refine v_isub (pc' := 116) (v := nI ys.length) F dX7_laysListed_115 (g_subn (by omega) (by omega)) rfl ?_
      refine v_istore_n (pc' := 117) (i := 3) (L' := [(3, .int (nI ys.length)), (2, .int (nI ok)), (1, .int (nI (([] ++ (f.take ok)).length))), (0, .ref m)]) F dX7_laysListed_116 rfl (by decide) rfl rfl ?_
      refine v_sub (L' := [(3, .int (nI ys.length)), (2, .int (nI ok)), (1, .int (nI (([] ++ (f.take ok)).length))), (0, .ref m)]) [0, 1, 2, 3] rfl ?_
      have g21 := frA _ _ (gnc (g_neL hvals hlst (by decide)) gn0) hvals
      refine lp3_X7_laysListed (l := l) (cells := 0) (slots := 0) (d := ([] ++ (f.take ok))) (y := y) (ys := ys) (mo := ok) F (by omega) (by omega) g17 g21 g18 lA dA (by rw [hyl, h0l]; omega) (by omega) (by omega) (fun i hi => by have := t5_ i hi; rw [hyl, Nat.add_sub_cancel] at this; exact this) (fun hC gC lC dC frC => ?_)
      show gV G z0 X 0 0 hC 153 [(3, .int (-1)), (2, .int (nI ok)), (1, .int (nI ((([] ++ (f.take ok)) ++ y :: ys).length))), (0, .ref m)] []
      refine v_iconst (pc' := 154) (v := nI 0) F dX7_laysListed_153 (by decide) rfl ?_
      refine v_istore_n (pc' := 155) (i := 3) (L' := [(3, .int (nI 0)), (2, .int (nI ok)), (1, .int (nI ((([] ++ (f.take ok)) ++ y :: ys).length))), (0, .ref m)]) F dX7_laysListed_154 rfl (by decide) rfl rfl ?_
      refine v_sub (L' := [(3, .int (nI 0)), (2, .int (nI ok)), (1, .int (nI ((([] ++ (f.take ok)) ++ y :: ys).length))), (0, .ref m)]) [0, 1, 2, 3] rfl ?_
      have g22 := frC _ _ (gnc (g_neA g17 lA) gn0) g17
      have g23 := frC _ _ (gnc (g_neL g21 lA (by decide)) gn0) g21
      have g24 := frC _ _ (gnc (g_neL g18 lA (by decide)) gn0) g18
      refine lp4_X7_laysListed (l := l) (cells := 0) (slots := 0) (d := (([] ++ (f.take ok)) ++ y :: ys)) (ys := r.reverse) (k := 0) (N := r.length) (mo := ok) F (by omega) (by omega) g22 g23 g24 lC dC (by simp only [List.length_append, List.length_reverse, List.length_cons] at *; omega) m1 b1 (by rw [List.length_reverse]; omega) (fun i hi => by rw [Nat.zero_add]; exact t1_ i (by rwa [List.length_reverse] at hi)) (fun hE gE lE dE frE => ?_)
      show gV G z0 X 0 0 hE 189 [(3, .int (nI r.length)), (2, .int (nI ok)), (1, .int (nI (((([] ++ (f.take ok)) ++ y :: ys) ++ r.reverse).length))), (0, .ref m)] []
      have fr25 : gfr [lst] h hE := (gfr.t frA (gfr.t frC frE))
      have ex : xs = (([] ++ (f.take ok)) ++ y :: ys) ++ r.reverse := by rw [hxs]; simp
      rw [← ex] at dE ⊢
      refine v_iload_n (pc' := 190) F dX7_laysListed_189 rfl (j := 2) rfl rfl ?_
      exact v_iret F E (by omega) (by omega)  dX7_laysListed_190 ⟨rfl, gE, lE, dE, fr25⟩
  · skip
    exact absurd rfl j1

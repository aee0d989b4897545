theorem k_X7_becomes_7 : gCl wsX7_becomes 7 RX7 TX7 26 := ⟨by decide +kernel, rfl⟩
theorem m_X7_becomes_f19 : Cond.fieldLink RX7 19 "SteadyQueuesModel" "many" "[I" ∈ wsX7_becomes := by decide +kernel
theorem m_X7_becomes_f16 : Cond.fieldLink RX7 16 "SteadyQueuesModel" "values" "[I" ∈ wsX7_becomes := by decide +kernel
set_option maxHeartbeats 4000000 in
set_option maxRecDepth 100000 in
theorem lp_X7_becomes {G : gG} {z0 : Nat} {X : gX} {post : Option Value → gH → Prop} {mc ms cells slots r k a b len9 : Nat} {h : gH} {m rows asd vals many way told oth lst text : Nat} {th now und fl rl kd ok st wm fed len spot fa fat num frm may : Int32} {V M : Nat → Int32} (F : gF G z0 X cX7_becomes 4 RX7 wsX7_becomes none "becomes" 0 0 mc ms) (E : gE G z0 X post mc ms) (hcc : cells ≤ mc) (hss : slots ≤ ms) (hm : h m = some (.inr (7, [.int th, .ref rows, .ref asd, .int now, .int und, .ref vals, .ref many, .int fl, .int rl, .int kd, .int ok, .int st, .ref way, .int wm, .ref told, .ref oth, .ref lst, .ref text, .int fed, .int len, .int spot, .int fa, .int fat, .int num, .int frm, .int may]))) (hvals : h vals = some (oI G 384 V)) (hmany : h many = some (oI G 6 M)) (hkr : k + r = len9) (hl : len9 ≤ 64) (ha : a < 6) (hb : b < 6) (hab : a ≠ b) (hMb : M b = nI len9) (hp : ∀ (W : Nat → Int32) (h' : gH), h' vals = some (oI G 384 W) → h' many = some (oI G 6 M) → (∀ j, k ≤ j → j < len9 → W (64 * a + j) = V (64 * b + j)) → (∀ q, (∀ j, k ≤ j → j < len9 → q ≠ 64 * a + j) → W q = V q) → gfr [vals] h h' → post none h') : gV G z0 X cells slots h 14 [(3, .int (nI k)), (2, .int (nI b)), (1, .int (nI a)), (0, .ref m)] [] := by
  induction r generalizing k V h with
  | zero =>
    refine v_iload_n (pc' := 15) F dX7_becomes_14 rfl (j := 0) rfl rfl ?_
    refine v_aload_n (pc' := 16) F dX7_becomes_15 rfl (j := 3) rfl rfl ?_
    refine v_getf (pc' := 19) (v := .ref many) F k_X7_becomes_7 hm 6 (by decide) m_X7_becomes_f19 rfl dX7_becomes_16 rfl ?_
    refine v_iload_n (pc' := 20) F dX7_becomes_19 rfl (j := 1) rfl rfl ?_
    refine w_iald (pc' := 21) (v := nI len9) F hmany (by omega) (by omega) hMb dX7_becomes_20 rfl ?_
    refine w_icmp_ge (tgt := 52) (pc' := 24) F (by omega) (by omega) dX7_becomes_21 (by decide) rfl (fun _ => ?_) (fun c0 => absurd c0 (by omega))
    exact v_vret F E (by omega) (by omega)  dX7_becomes_52 (hp V h hvals hmany (fun j h1 h2 => absurd h1 (by omega)) (fun q _ => rfl) gfr.rf)
  | succ r ih =>
    refine v_iload_n (pc' := 15) F dX7_becomes_14 rfl (j := 0) rfl rfl ?_
    refine v_aload_n (pc' := 16) F dX7_becomes_15 rfl (j := 3) rfl rfl ?_
    refine v_getf (pc' := 19) (v := .ref many) F k_X7_becomes_7 hm 6 (by decide) m_X7_becomes_f19 rfl dX7_becomes_16 rfl ?_
    refine v_iload_n (pc' := 20) F dX7_becomes_19 rfl (j := 1) rfl rfl ?_
    refine w_iald (pc' := 21) (v := nI len9) F hmany (by omega) (by omega) hMb dX7_becomes_20 rfl ?_
    refine w_icmp_ge (tgt := 52) (pc' := 24) F (by omega) (by omega) dX7_becomes_21 (by decide) rfl (fun c0 => absurd c0 (by omega)) (fun _ => ?_)
    refine v_aload_n (pc' := 25) F dX7_becomes_24 rfl (j := 3) rfl rfl ?_
    refine v_getf (pc' := 28) (v := .ref vals) F k_X7_becomes_7 hm 5 (by decide) m_X7_becomes_f16 rfl dX7_becomes_25 rfl ?_
    refine v_bipush (pc' := 30) (v := nI 64) F dX7_becomes_28 (by decide) rfl ?_
    refine v_iload_n (pc' := 31) F dX7_becomes_30 rfl (j := 2) rfl rfl ?_
    refine v_imul (pc' := 32) (v := nI (64 * a)) F dX7_becomes_31 (pk_mul 64 a) rfl ?_
    refine v_iload_n (pc' := 33) F dX7_becomes_32 rfl (j := 0) rfl rfl ?_
    refine v_iadd (pc' := 34) (v := nI (64 * a + k)) F dX7_becomes_33 (nI_add (64 * a) k) rfl ?_
    refine v_aload_n (pc' := 35) F dX7_becomes_34 rfl (j := 3) rfl rfl ?_
    refine v_getf (pc' := 38) (v := .ref vals) F k_X7_becomes_7 hm 5 (by decide) m_X7_becomes_f16 rfl dX7_becomes_35 rfl ?_
    refine v_bipush (pc' := 40) (v := nI 64) F dX7_becomes_38 (by decide) rfl ?_
    refine v_iload_n (pc' := 41) F dX7_becomes_40 rfl (j := 1) rfl rfl ?_
    refine v_imul (pc' := 42) (v := nI (64 * b)) F dX7_becomes_41 (pk_mul 64 b) rfl ?_
    refine v_iload_n (pc' := 43) F dX7_becomes_42 rfl (j := 0) rfl rfl ?_
    refine v_iadd (pc' := 44) (v := nI (64 * b + k)) F dX7_becomes_43 (nI_add (64 * b) k) rfl ?_
    refine w_iald (pc' := 45) (v := V (64 * b + k)) F hvals (by omega) (by omega) rfl dX7_becomes_44 rfl ?_
    refine w_iast (pc' := 46) F hvals (by omega) (by omega) dX7_becomes_45 rfl (fun h1 a2 f3 => ?_)
    refine v_iinc (pc' := 49) (j := 0) (x := nI k) (v := nI (k + 1)) (L' := [(3, .int (nI (k + 1))), (2, .int (nI b)), (1, .int (nI a)), (0, .ref m)]) F dX7_becomes_46 rfl (nI_add k 1) (by decide) rfl rfl ?_
    refine v_goto (tgt := 14) F dX7_becomes_49 (by decide) ?_
    refine v_sub (L' := [(3, .int (nI (k + 1))), (2, .int (nI b)), (1, .int (nI a)), (0, .ref m)]) [0, 1, 2, 3] rfl ?_
    have fr4 : gfr [vals] h h1 := f3
    have g5 := f3 _ _ (gnc ((g_neL hvals hmany (by decide)).symm) gn0) hmany
    have g6 := f3 _ _ (gnc (g_neA hm hvals) gn0) hm
    exact ih (k := k + 1) g6 a2 g5 (by omega) (fun W h9 a1 a2 a3 a4 a5 => hp W h9 a1 a2 (fun j h1 h2 => by
      by_cases e : j = k
      · subst e
        rw [a4 (64 * a + j) (fun i h3 h4 => by omega), upd_eq]
      · rw [a3 j (by omega) h2, upd_ne (by omega)]) (fun q hq => by
      rw [a4 q (fun i h3 h4 => hq i (by omega) h4), upd_ne (hq k (Nat.le_refl _) (by omega))]) (gfr.t fr4 a5))
theorem mdL.becomes {V W M : Nat → Int32} {ls : Nat → List Int32} {a b : Nat} (h : mdL V M ls) (ha : a < 6) (hb : b < 6) (hab : a ≠ b) (h1 : ∀ j, 0 ≤ j → j < (ls b).length → W (64 * a + j) = V (64 * b + j)) (h2 : ∀ q, (∀ j, 0 ≤ j → j < (ls b).length → q ≠ 64 * a + j) → W q = V q) : mdL W (upd M a (nI (ls b).length)) (va_up ls a (ls b)) := fun K hK => by
  obtain ⟨g1, g2, g3⟩ := h b hb
  obtain ⟨f1, f2, f3⟩ := h K hK
  by_cases e : K = a
  · subst e
    have e1 : va_up ls K (ls b) K = ls b := by unfold va_up; rw [if_pos rfl]
    rw [e1, upd_eq]
    refine ⟨rfl, g2, fun j hj => ?_⟩
    rw [List.length_reverse] at hj
    rw [h1 j (Nat.zero_le _) hj]
    exact g3 j (by rw [List.length_reverse]; exact hj)
  · have e1 : va_up ls a (ls b) K = ls K := by unfold va_up; rw [if_neg e]
    rw [e1, upd_ne e]
    refine ⟨f1, f2, fun j hj => ?_⟩
    rw [List.length_reverse] at hj
    rw [h2 _ (fun i _ hi => by omega)]
    exact f3 j (by rw [List.length_reverse]; exact hj)
set_option maxHeartbeats 4000000 in
set_option maxRecDepth 100000 in
theorem c_X7_becomes (G : gG) (z0 : Nat) (l : Launch) {h : gH} {m rows asd vals many way told oth lst text : Nat} {th now und fl rl kd ok st wm fed len spot fa fat num frm may : Int32} {V M : Nat → Int32} {ls : Nat → List Int32} {a b : Nat} (hm : h m = some (.inr (7, [.int th, .ref rows, .ref asd, .int now, .int und, .ref vals, .ref many, .int fl, .int rl, .int kd, .int ok, .int st, .ref way, .int wm, .ref told, .ref oth, .ref lst, .ref text, .int fed, .int len, .int spot, .int fa, .int fat, .int num, .int frm, .int may]))) (hvals : h vals = some (oI G 384 V)) (hmany : h many = some (oI G 6 M)) (hls : mdL V M ls) (ha : a < 6) (hb : b < 6) (hab : a ≠ b) : gC G z0 l yX7_becomes wsX7_becomes 0 0 [.ref m, .int (nI a), .int (nI b)] h (fun v h' => v = none ∧ ∃ V' M', h' vals = some (oI G 384 V') ∧ h' many = some (oI G 6 M') ∧ mdL V' M' (va_up ls a (ls b)) ∧ gfr [vals, many] h h') 0 0 := by
  have hB := hls b hb
  have hB2 := hB.2.1
  refine gC_of (cc := cX7_becomes) (nL := 4) (ret := none) (by decide) rfl (Nat.le_of_ble_eq_true rfl) ?_
  intro X F E _
  change gF G z0 X cX7_becomes 4 RX7 wsX7_becomes none "becomes" 0 0 _ _ at F
  show gV G z0 X 0 0 h 0 [(0, .ref m), (1, .int (nI a)), (2, .int (nI b))] []
  refine v_aload_n (pc' := 1) F dX7_becomes_0 rfl (j := 0) rfl rfl ?_
  refine v_getf (pc' := 4) (v := .ref many) F k_X7_becomes_7 hm 6 (by decide) m_X7_becomes_f19 rfl dX7_becomes_1 rfl ?_
  refine v_iload_n (pc' := 5) F dX7_becomes_4 rfl (j := 1) rfl rfl ?_
  refine v_aload_n (pc' := 6) F dX7_becomes_5 rfl (j := 0) rfl rfl ?_
  refine v_getf (pc' := 9) (v := .ref many) F k_X7_becomes_7 hm 6 (by decide) m_X7_becomes_f19 rfl dX7_becomes_6 rfl ?_
  refine v_iload_n (pc' := 10) F dX7_becomes_9 rfl (j := 2) rfl rfl ?_
  refine w_iald (pc' := 11) (v := nI ((ls b).length)) F hmany (by omega) (by omega) hB.1 dX7_becomes_10 rfl ?_
  refine w_iast (pc' := 12) F hmany (by omega) (by omega) dX7_becomes_11 rfl (fun h1 a2 f3 => ?_)
  refine v_iconst (pc' := 13) (v := nI 0) F dX7_becomes_12 (by decide) rfl ?_
  refine v_istore_n (pc' := 14) (i := 3) (L' := [(3, .int (nI 0)), (0, .ref m), (1, .int (nI a)), (2, .int (nI b))]) F dX7_becomes_13 rfl (by decide) rfl rfl ?_
  refine v_sub (L' := [(3, .int (nI 0)), (2, .int (nI b)), (1, .int (nI a)), (0, .ref m)]) [0, 3, 2, 1] rfl ?_
  have fr4 : gfr [many] h h1 := f3
  have g5 := f3 _ _ (gnc (g_neL hvals hmany (by decide)) gn0) hvals
  have g6 := f3 _ _ (gnc (g_neA hm hmany) gn0) hm
  exact lp_X7_becomes (r := (ls b).length) (k := 0) F E (by omega) (by omega) g6 g5 a2 (by omega) hB2 ha hb hab (by rw [upd_ne (fun z => hab z.symm)]; exact hB.1) (fun W h9 a1 a2 a3 a4 a5 => ⟨rfl, W, _, a1, a2, hls.becomes ha hb hab a3 a4, gfr.t (gfr.mono fr4 (by intro q9 z9 m9; apply z9; simp only [List.mem_cons, List.not_mem_nil, or_false] at m9 ⊢; omega)) (gfr.mono a5 (by intro q9 z9 m9; apply z9; simp only [List.mem_cons, List.not_mem_nil, or_false] at m9 ⊢; omega))⟩)

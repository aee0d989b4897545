theorem mdL.top {V M : Nat → Int32} {ls : Nat → List Int32} (h : mdL V M ls) {L k : Nat} (hL : L < 6) (hk : k < (ls L).length) : V (64 * L + ((ls L).length - 1 - k)) = (ls L).getD k 0 := by
  obtain ⟨-, -, h3⟩ := h L hL
  rw [h3 _ (by rw [List.length_reverse]; omega), List.getD_eq_getElem?_getD, List.getD_eq_getElem?_getD, List.getElem?_reverse (by omega)]
  congr 2
  omega
theorem mdL.bot {V M : Nat → Int32} {ls : Nat → List Int32} (h : mdL V M ls) {L k : Nat} (hL : L < 6) (hk : k < (ls L).length) : V (64 * L + k) = (ls L).reverse.getD k 0 := (h L hL).2.2 k (by rw [List.length_reverse]; exact hk)
theorem k_X7_laysListed_7 : gCl wsX7_laysListed 7 RX7 TX7 26 := ⟨by decide +kernel, rfl⟩
theorem m_X7_laysListed_f31 : Cond.fieldLink RX7 31 "SteadyQueuesModel" "listed" "[I" ∈ wsX7_laysListed := by decide +kernel
theorem m_X7_laysListed_f16 : Cond.fieldLink RX7 16 "SteadyQueuesModel" "values" "[I" ∈ wsX7_laysListed := by decide +kernel
theorem m_X7_laysListed_f19 : Cond.fieldLink RX7 19 "SteadyQueuesModel" "many" "[I" ∈ wsX7_laysListed := by decide +kernel
set_option maxHeartbeats 4000000 in
set_option maxRecDepth 100000 in
theorem lp1_X7_laysListed {G : gG} {z0 : Nat} {X : gX} {l : Launch} {mc ms cells slots k N mo : Nat} {h : gH} {m rows asd vals many kd ok way told oth lst text : Nat} {th now und fl rl st wm fed len spot fa fat num frm may : Int32} {V M g : Nat → Int32} {d ys : List Int32} (F : gF G z0 X cX7_laysListed 4 RX7 wsX7_laysListed (some .int) "laysListed" 0 0 mc ms) (hcc : cells ≤ mc) (hss : slots ≤ ms) (hm : h m = some (.inr (7, [.int th, .ref rows, .ref asd, .int now, .int und, .ref vals, .ref many, .int fl, .int rl, .int (nI kd), .int (nI ok), .int st, .ref way, .int wm, .ref told, .ref oth, .ref lst, .ref text, .int fed, .int len, .int spot, .int fa, .int fat, .int num, .int frm, .int may]))) (hvals : h vals = some (oI G 384 V)) (hmany : h many = some (oI G 6 M)) (hlst : h lst = some (oI G 128 g)) (hd : fHas g 0 d) (hl9 : d.length + ys.length ≤ 64) (hMN : M 0 = nI N) (hmoN : mo ≤ N) (hN : N ≤ 64) (hkn : k + ys.length = mo) (hV : ∀ i, i < ys.length → V (N - 1 - (k + i)) = ys.getD i 0) (K : ∀ (h' : gH) (g' : Nat → Int32), h' lst = some (oI G 128 g') → fHas g' 0 (d ++ ys) → gfr [lst] h h' → gV G z0 X cells slots h' 63 [(3, .int (nI mo)), (2, .int (nI mo)), (1, .int (nI ((d ++ ys).length))), (0, .ref m)] []) : gV G z0 X cells slots h 26 [(3, .int (nI k)), (2, .int (nI mo)), (1, .int (nI d.length)), (0, .ref m)] [] := by
  induction ys generalizing d k g h with
  | nil =>
    rw [List.length_nil] at hkn
    obtain rfl : k = mo := by omega
    refine v_iload_n (pc' := 27) F dX7_laysListed_26 rfl (j := 0) rfl rfl ?_
    refine v_iload_n (pc' := 28) F dX7_laysListed_27 rfl (j := 1) rfl rfl ?_
    refine w_icmp_ge (tgt := 63) (pc' := 31) F (by omega) (by omega) dX7_laysListed_28 (by decide) rfl (fun _ => ?_) (fun c0 => absurd c0 (by omega))
    rw [List.append_nil] at K
    exact K h g hlst hd gfr.rf
  | cons y ys ih =>
    rw [List.length_cons] at hkn hl9
    have hy := hV 0 (by simp)
    rw [Nat.add_zero] at hy
    change _ = y at hy
    refine v_iload_n (pc' := 27) F dX7_laysListed_26 rfl (j := 0) rfl rfl ?_
    refine v_iload_n (pc' := 28) F dX7_laysListed_27 rfl (j := 1) rfl rfl ?_
    refine w_icmp_ge (tgt := 63) (pc' := 31) F (by omega) (by omega) dX7_laysListed_28 (by decide) rfl (fun c0 => absurd c0 (by omega)) (fun _ => ?_)
    refine v_aload_n (pc' := 32) F dX7_laysListed_31 rfl (j := 3) rfl rfl ?_
    refine v_getf (pc' := 35) (v := .ref lst) F k_X7_laysListed_7 hm 16 (by decide) m_X7_laysListed_f31 rfl dX7_laysListed_32 rfl ?_
    refine v_iload_n (pc' := 36) F dX7_laysListed_35 rfl (j := 2) rfl rfl ?_
    refine v_aload_n (pc' := 37) F dX7_laysListed_36 rfl (j := 3) rfl rfl ?_
    refine v_getf (pc' := 40) (v := .ref vals) F k_X7_laysListed_7 hm 5 (by decide) m_X7_laysListed_f16 rfl dX7_laysListed_37 rfl ?_
    refine v_iconst (pc' := 41) (v := nI 0) F dX7_laysListed_40 (by decide) rfl ?_
    refine v_aload_n (pc' := 42) F dX7_laysListed_41 rfl (j := 3) rfl rfl ?_
    refine v_getf (pc' := 45) (v := .ref many) F k_X7_laysListed_7 hm 6 (by decide) m_X7_laysListed_f19 rfl dX7_laysListed_42 rfl ?_
    refine v_iconst (pc' := 46) (v := nI 0) F dX7_laysListed_45 (by decide) rfl ?_
    refine w_iald (pc' := 47) (v := nI N) F hmany (by omega) (by omega) hMN dX7_laysListed_46 rfl ?_
    refine v_iadd (pc' := 48) (v := nI N) F dX7_laysListed_47 (g_eqn (nI_add 0 N) (by omega)) rfl ?_
    refine v_iconst (pc' := 49) (v := nI 1) F dX7_laysListed_48 (by decide) rfl ?_
    refine v_isub (pc' := 50) (v := nI (N - 1)) F dX7_laysListed_49 (g_subn (by omega) (by omega)) rfl ?_
    refine v_iload_n (pc' := 51) F dX7_laysListed_50 rfl (j := 0) rfl rfl ?_
    refine v_isub (pc' := 52) (v := nI (N - 1 - k)) F dX7_laysListed_51 (g_subn (by omega) (by omega)) rfl ?_
    refine w_iald (pc' := 53) (v := y) F hvals (by omega) (by omega) hy dX7_laysListed_52 rfl ?_
    refine w_iast (pc' := 54) F hlst (by omega) (by omega) dX7_laysListed_53 rfl (fun h1 a2 f3 => ?_)
    refine v_iinc (pc' := 57) (j := 2) (x := nI d.length) (v := nI (d.length + 1)) (L' := [(1, .int (nI (d.length + 1))), (3, .int (nI k)), (2, .int (nI mo)), (0, .ref m)]) F dX7_laysListed_54 rfl (nI_add d.length 1) (by decide) rfl rfl ?_
    refine v_iinc (pc' := 60) (j := 1) (x := nI k) (v := nI (k + 1)) (L' := [(3, .int (nI (k + 1))), (1, .int (nI (d.length + 1))), (2, .int (nI mo)), (0, .ref m)]) F dX7_laysListed_57 rfl (nI_add k 1) (by decide) rfl rfl ?_
    refine v_goto (tgt := 26) F dX7_laysListed_60 (by decide) ?_
    have fr4 : gfr [lst] h h1 := f3
    refine v_sub (L' := [(3, .int (nI (k + 1))), (2, .int (nI mo)), (1, .int (nI (d.length + 1))), (0, .ref m)]) [0, 2, 1, 3] rfl ?_
    have g5 := f3 _ _ (gnc (g_neA hm hlst) gn0) hm
    have g6 := f3 _ _ (gnc (g_neL hvals hlst (by decide)) gn0) hvals
    have g7 := f3 _ _ (gnc (g_neL hmany hlst (by decide)) gn0) hmany
    rw [show d.length + 1 = (d ++ [y]).length by rw [List.length_append, List.length_singleton]]
    exact ih (d := d ++ [y]) (k := k + 1) g5 g6 g7 a2 (fHas.snoc hd) (by rw [List.length_append, List.length_singleton]; omega) (by omega) (fun i hi => by have := hV (i + 1) (by rw [List.length_cons]; omega); rw [show k + 1 + i = k + (i + 1) by omega]; exact this) (fun hA gA a1 a2 a3 => by have := K hA gA a1 (by rw [List.append_cons]; exact a2) (gfr.t fr4 a3); rw [List.append_cons] at this; exact this)
theorem m_X7_laysListed_f79 : Cond.fieldLink RX7 79 "SteadyQueuesModel" "kind" "I" ∈ wsX7_laysListed := by decide +kernel
set_option maxHeartbeats 4000000 in
set_option maxRecDepth 100000 in
theorem lp2_X7_laysListed {G : gG} {z0 : Nat} {X : gX} {l : Launch} {mc ms cells slots k N mo : Nat} {h : gH} {m rows asd vals many kd ok way told oth lst text : Nat} {th now und fl rl st wm fed len spot fa fat num frm may : Int32} {V M g : Nat → Int32} {d ys : List Int32} (F : gF G z0 X cX7_laysListed 4 RX7 wsX7_laysListed (some .int) "laysListed" 0 0 mc ms) (hcc : cells ≤ mc) (hss : slots ≤ ms) (hm : h m = some (.inr (7, [.int th, .ref rows, .ref asd, .int now, .int und, .ref vals, .ref many, .int fl, .int rl, .int (nI kd), .int (nI ok), .int st, .ref way, .int wm, .ref told, .ref oth, .ref lst, .ref text, .int fed, .int len, .int spot, .int fa, .int fat, .int num, .int frm, .int may]))) (hvals : h vals = some (oI G 384 V)) (hmany : h many = some (oI G 6 M)) (hlst : h lst = some (oI G 128 g)) (hd : fHas g 0 d) (hl9 : d.length + ys.length ≤ 64) (hkd : kd = 1) (hMN : M 4 = nI N) (hN : N ≤ 64) (hkn : k + ys.length = N) (hV : ∀ i, i < ys.length → V (256 + (k + i)) = ys.getD i 0) (K : ∀ (h' : gH) (g' : Nat → Int32), h' lst = some (oI G 128 g') → fHas g' 0 (d ++ ys) → gfr [lst] h h' → gV G z0 X cells slots h' 108 [(3, .int (nI N)), (2, .int (nI mo)), (1, .int (nI ((d ++ ys).length))), (0, .ref m)] []) : gV G z0 X cells slots h 65 [(3, .int (nI k)), (2, .int (nI mo)), (1, .int (nI d.length)), (0, .ref m)] [] := by
  induction ys generalizing d k g h with
  | nil =>
    rw [List.length_nil] at hkn
    obtain rfl : k = N := by omega
    refine v_aload_n (pc' := 66) F dX7_laysListed_65 rfl (j := 3) rfl rfl ?_
    refine v_getf (pc' := 69) (v := .int (nI kd)) F k_X7_laysListed_7 hm 9 (by decide) m_X7_laysListed_f79 rfl dX7_laysListed_66 rfl ?_
    refine v_iconst (pc' := 70) (v := nI 1) F dX7_laysListed_69 (by decide) rfl ?_
    refine w_icmp_ne (tgt := 108) (pc' := 73) F (by omega) (by omega) dX7_laysListed_70 (by decide) rfl (fun c0 => absurd hkd c0) (fun _ => ?_)
    refine v_iload_n (pc' := 74) F dX7_laysListed_73 rfl (j := 0) rfl rfl ?_
    refine v_aload_n (pc' := 75) F dX7_laysListed_74 rfl (j := 3) rfl rfl ?_
    refine v_getf (pc' := 78) (v := .ref many) F k_X7_laysListed_7 hm 6 (by decide) m_X7_laysListed_f19 rfl dX7_laysListed_75 rfl ?_
    refine v_iconst (pc' := 79) (v := nI 4) F dX7_laysListed_78 (by decide) rfl ?_
    refine w_iald (pc' := 80) (v := nI k) F hmany (by omega) (by omega) hMN dX7_laysListed_79 rfl ?_
    refine w_icmp_ge (tgt := 108) (pc' := 83) F (by omega) (by omega) dX7_laysListed_80 (by decide) rfl (fun _ => ?_) (fun c0 => absurd c0 (by omega))
    rw [List.append_nil] at K
    exact K h g hlst hd gfr.rf
  | cons y ys ih =>
    rw [List.length_cons] at hkn hl9
    have hy := hV 0 (by simp)
    rw [Nat.add_zero] at hy
    change _ = y at hy
    refine v_aload_n (pc' := 66) F dX7_laysListed_65 rfl (j := 3) rfl rfl ?_
    refine v_getf (pc' := 69) (v := .int (nI kd)) F k_X7_laysListed_7 hm 9 (by decide) m_X7_laysListed_f79 rfl dX7_laysListed_66 rfl ?_
    refine v_iconst (pc' := 70) (v := nI 1) F dX7_laysListed_69 (by decide) rfl ?_
    refine w_icmp_ne (tgt := 108) (pc' := 73) F (by omega) (by omega) dX7_laysListed_70 (by decide) rfl (fun c0 => absurd hkd c0) (fun _ => ?_)
    refine v_iload_n (pc' := 74) F dX7_laysListed_73 rfl (j := 0) rfl rfl ?_
    refine v_aload_n (pc' := 75) F dX7_laysListed_74 rfl (j := 3) rfl rfl ?_
    refine v_getf (pc' := 78) (v := .ref many) F k_X7_laysListed_7 hm 6 (by decide) m_X7_laysListed_f19 rfl dX7_laysListed_75 rfl ?_
    refine v_iconst (pc' := 79) (v := nI 4) F dX7_laysListed_78 (by decide) rfl ?_
    refine w_iald (pc' := 80) (v := nI N) F hmany (by omega) (by omega) hMN dX7_laysListed_79 rfl ?_
    refine w_icmp_ge (tgt := 108) (pc' := 83) F (by omega) (by omega) dX7_laysListed_80 (by decide) rfl (fun c0 => absurd c0 (by omega)) (fun _ => ?_)
    refine v_aload_n (pc' := 84) F dX7_laysListed_83 rfl (j := 3) rfl rfl ?_
    refine v_getf (pc' := 87) (v := .ref lst) F k_X7_laysListed_7 hm 16 (by decide) m_X7_laysListed_f31 rfl dX7_laysListed_84 rfl ?_
    refine v_iload_n (pc' := 88) F dX7_laysListed_87 rfl (j := 2) rfl rfl ?_
    refine v_aload_n (pc' := 89) F dX7_laysListed_88 rfl (j := 3) rfl rfl ?_
    refine v_getf (pc' := 92) (v := .ref vals) F k_X7_laysListed_7 hm 5 (by decide) m_X7_laysListed_f16 rfl dX7_laysListed_89 rfl ?_
    refine v_sipush (pc' := 95) (v := nI 256) F dX7_laysListed_92 (by decide) rfl ?_
    refine v_iload_n (pc' := 96) F dX7_laysListed_95 rfl (j := 0) rfl rfl ?_
    refine v_iadd (pc' := 97) (v := nI (256 + k)) F dX7_laysListed_96 (nI_add 256 k) rfl ?_
    refine w_iald (pc' := 98) (v := y) F hvals (by omega) (by omega) hy dX7_laysListed_97 rfl ?_
    refine w_iast (pc' := 99) F hlst (by omega) (by omega) dX7_laysListed_98 rfl (fun h1 a2 f3 => ?_)
    refine v_iinc (pc' := 102) (j := 2) (x := nI d.length) (v := nI (d.length + 1)) (L' := [(1, .int (nI (d.length + 1))), (3, .int (nI k)), (2, .int (nI mo)), (0, .ref m)]) F dX7_laysListed_99 rfl (nI_add d.length 1) (by decide) rfl rfl ?_
    refine v_iinc (pc' := 105) (j := 1) (x := nI k) (v := nI (k + 1)) (L' := [(3, .int (nI (k + 1))), (1, .int (nI (d.length + 1))), (2, .int (nI mo)), (0, .ref m)]) F dX7_laysListed_102 rfl (nI_add k 1) (by decide) rfl rfl ?_
    refine v_goto (tgt := 65) F dX7_laysListed_105 (by decide) ?_
    have fr4 : gfr [lst] h h1 := f3
    refine v_sub (L' := [(3, .int (nI (k + 1))), (2, .int (nI mo)), (1, .int (nI (d.length + 1))), (0, .ref m)]) [0, 2, 1, 3] rfl ?_
    have g5 := f3 _ _ (gnc (g_neA hm hlst) gn0) hm
    have g6 := f3 _ _ (gnc (g_neL hvals hlst (by decide)) gn0) hvals
    have g7 := f3 _ _ (gnc (g_neL hmany hlst (by decide)) gn0) hmany
    rw [show d.length + 1 = (d ++ [y]).length by rw [List.length_append, List.length_singleton]]
    exact ih (d := d ++ [y]) (k := k + 1) g5 g6 g7 a2 (fHas.snoc hd) (by rw [List.length_append, List.length_singleton]; omega) (by omega) (fun i hi => by have := hV (i + 1) (by rw [List.length_cons]; omega); rw [show k + 1 + i = k + (i + 1) by omega]; exact this) (fun hA gA a1 a2 a3 => by have := K hA gA a1 (by rw [List.append_cons]; exact a2) (gfr.t fr4 a3); rw [List.append_cons] at this; exact this)
set_option maxHeartbeats 4000000 in
set_option maxRecDepth 100000 in
theorem lp4_X7_laysListed {G : gG} {z0 : Nat} {X : gX} {l : Launch} {mc ms cells slots k N mo : Nat} {h : gH} {m rows asd vals many kd ok way told oth lst text : Nat} {th now und fl rl st wm fed len spot fa fat num frm may : Int32} {V M g : Nat → Int32} {d ys : List Int32} (F : gF G z0 X cX7_laysListed 4 RX7 wsX7_laysListed (some .int) "laysListed" 0 0 mc ms) (hcc : cells ≤ mc) (hss : slots ≤ ms) (hm : h m = some (.inr (7, [.int th, .ref rows, .ref asd, .int now, .int und, .ref vals, .ref many, .int fl, .int rl, .int (nI kd), .int (nI ok), .int st, .ref way, .int wm, .ref told, .ref oth, .ref lst, .ref text, .int fed, .int len, .int spot, .int fa, .int fat, .int num, .int frm, .int may]))) (hvals : h vals = some (oI G 384 V)) (hmany : h many = some (oI G 6 M)) (hlst : h lst = some (oI G 128 g)) (hd : fHas g 0 d) (hl9 : d.length + ys.length ≤ 64) (hMN : M 1 = nI N) (hN : N ≤ 64) (hkn : k + ys.length = N) (hV : ∀ i, i < ys.length → V (64 + (k + i)) = ys.getD i 0) (K : ∀ (h' : gH) (g' : Nat → Int32), h' lst = some (oI G 128 g') → fHas g' 0 (d ++ ys) → gfr [lst] h h' → gV G z0 X cells slots h' 189 [(3, .int (nI N)), (2, .int (nI mo)), (1, .int (nI ((d ++ ys).length))), (0, .ref m)] []) : gV G z0 X cells slots h 155 [(3, .int (nI k)), (2, .int (nI mo)), (1, .int (nI d.length)), (0, .ref m)] [] := by
  induction ys generalizing d k g h with
  | nil =>
    rw [List.length_nil] at hkn
    obtain rfl : k = N := by omega
    refine v_iload_n (pc' := 156) F dX7_laysListed_155 rfl (j := 0) rfl rfl ?_
    refine v_aload_n (pc' := 157) F dX7_laysListed_156 rfl (j := 3) rfl rfl ?_
    refine v_getf (pc' := 160) (v := .ref many) F k_X7_laysListed_7 hm 6 (by decide) m_X7_laysListed_f19 rfl dX7_laysListed_157 rfl ?_
    refine v_iconst (pc' := 161) (v := nI 1) F dX7_laysListed_160 (by decide) rfl ?_
    refine w_iald (pc' := 162) (v := nI k) F hmany (by omega) (by omega) hMN dX7_laysListed_161 rfl ?_
    refine w_icmp_ge (tgt := 189) (pc' := 165) F (by omega) (by omega) dX7_laysListed_162 (by decide) rfl (fun _ => ?_) (fun c0 => absurd c0 (by omega))
    rw [List.append_nil] at K
    exact K h g hlst hd gfr.rf
  | cons y ys ih =>
    rw [List.length_cons] at hkn hl9
    have hy := hV 0 (by simp)
    rw [Nat.add_zero] at hy
    change _ = y at hy
    refine v_iload_n (pc' := 156) F dX7_laysListed_155 rfl (j := 0) rfl rfl ?_
    refine v_aload_n (pc' := 157) F dX7_laysListed_156 rfl (j := 3) rfl rfl ?_
    refine v_getf (pc' := 160) (v := .ref many) F k_X7_laysListed_7 hm 6 (by decide) m_X7_laysListed_f19 rfl dX7_laysListed_157 rfl ?_
    refine v_iconst (pc' := 161) (v := nI 1) F dX7_laysListed_160 (by decide) rfl ?_
    refine w_iald (pc' := 162) (v := nI N) F hmany (by omega) (by omega) hMN dX7_laysListed_161 rfl ?_
    refine w_icmp_ge (tgt := 189) (pc' := 165) F (by omega) (by omega) dX7_laysListed_162 (by decide) rfl (fun c0 => absurd c0 (by omega)) (fun _ => ?_)
    refine v_aload_n (pc' := 166) F dX7_laysListed_165 rfl (j := 3) rfl rfl ?_
    refine v_getf (pc' := 169) (v := .ref lst) F k_X7_laysListed_7 hm 16 (by decide) m_X7_laysListed_f31 rfl dX7_laysListed_166 rfl ?_
    refine v_iload_n (pc' := 170) F dX7_laysListed_169 rfl (j := 2) rfl rfl ?_
    refine v_aload_n (pc' := 171) F dX7_laysListed_170 rfl (j := 3) rfl rfl ?_
    refine v_getf (pc' := 174) (v := .ref vals) F k_X7_laysListed_7 hm 5 (by decide) m_X7_laysListed_f16 rfl dX7_laysListed_171 rfl ?_
    refine v_bipush (pc' := 176) (v := nI 64) F dX7_laysListed_174 (by decide) rfl ?_
    refine v_iload_n (pc' := 177) F dX7_laysListed_176 rfl (j := 0) rfl rfl ?_
    refine v_iadd (pc' := 178) (v := nI (64 + k)) F dX7_laysListed_177 (nI_add 64 k) rfl ?_
    refine w_iald (pc' := 179) (v := y) F hvals (by omega) (by omega) hy dX7_laysListed_178 rfl ?_
    refine w_iast (pc' := 180) F hlst (by omega) (by omega) dX7_laysListed_179 rfl (fun h1 a2 f3 => ?_)
    refine v_iinc (pc' := 183) (j := 2) (x := nI d.length) (v := nI (d.length + 1)) (L' := [(1, .int (nI (d.length + 1))), (3, .int (nI k)), (2, .int (nI mo)), (0, .ref m)]) F dX7_laysListed_180 rfl (nI_add d.length 1) (by decide) rfl rfl ?_
    refine v_iinc (pc' := 186) (j := 1) (x := nI k) (v := nI (k + 1)) (L' := [(3, .int (nI (k + 1))), (1, .int (nI (d.length + 1))), (2, .int (nI mo)), (0, .ref m)]) F dX7_laysListed_183 rfl (nI_add k 1) (by decide) rfl rfl ?_
    refine v_goto (tgt := 155) F dX7_laysListed_186 (by decide) ?_
    have fr4 : gfr [lst] h h1 := f3
    refine v_sub (L' := [(3, .int (nI (k + 1))), (2, .int (nI mo)), (1, .int (nI (d.length + 1))), (0, .ref m)]) [0, 2, 1, 3] rfl ?_
    have g5 := f3 _ _ (gnc (g_neA hm hlst) gn0) hm
    have g6 := f3 _ _ (gnc (g_neL hvals hlst (by decide)) gn0) hvals
    have g7 := f3 _ _ (gnc (g_neL hmany hlst (by decide)) gn0) hmany
    rw [show d.length + 1 = (d ++ [y]).length by rw [List.length_append, List.length_singleton]]
    exact ih (d := d ++ [y]) (k := k + 1) g5 g6 g7 a2 (fHas.snoc hd) (by rw [List.length_append, List.length_singleton]; omega) (by omega) (fun i hi => by have := hV (i + 1) (by rw [List.length_cons]; omega); rw [show k + 1 + i = k + (i + 1) by omega]; exact this) (fun hA gA a1 a2 a3 => by have := K hA gA a1 (by rw [List.append_cons]; exact a2) (gfr.t fr4 a3); rw [List.append_cons] at this; exact this)
set_option maxHeartbeats 4000000 in
set_option maxRecDepth 100000 in
theorem lp3_X7_laysListed {G : gG} {z0 : Nat} {X : gX} {l : Launch} {mc ms cells slots mo : Nat} {h : gH} {m rows asd vals many kd ok way told oth lst text : Nat} {th now und fl rl st wm fed len spot fa fat num frm may : Int32} {V M g : Nat → Int32} {d ys : List Int32} {y : Int32} (F : gF G z0 X cX7_laysListed 4 RX7 wsX7_laysListed (some .int) "laysListed" 0 0 mc ms) (hcc : cells ≤ mc) (hss : slots ≤ ms) (hm : h m = some (.inr (7, [.int th, .ref rows, .ref asd, .int now, .int und, .ref vals, .ref many, .int fl, .int rl, .int (nI kd), .int (nI ok), .int st, .ref way, .int wm, .ref told, .ref oth, .ref lst, .ref text, .int fed, .int len, .int spot, .int fa, .int fat, .int num, .int frm, .int may]))) (hvals : h vals = some (oI G 384 V)) (hmany : h many = some (oI G 6 M)) (hlst : h lst = some (oI G 128 g)) (hd : fHas g 0 d) (hl9 : d.length + (y :: ys).length ≤ 64) (hkd : kd ≠ 0) (hk4 : kd < 4) (hV : ∀ i, i < (y :: ys).length → V (320 + (ys.length - i)) = (y :: ys).getD i 0) (K : ∀ (h' : gH) (g' : Nat → Int32), h' lst = some (oI G 128 g') → fHas g' 0 (d ++ y :: ys) → gfr [lst] h h' → gV G z0 X cells slots h' 153 [(3, .int (-1)), (2, .int (nI mo)), (1, .int (nI ((d ++ y :: ys).length))), (0, .ref m)] []) : gV G z0 X cells slots h 117 [(3, .int (nI ys.length)), (2, .int (nI mo)), (1, .int (nI d.length)), (0, .ref m)] [] := by
  induction ys generalizing d y g h with
  | nil =>
    have hl9b := hl9
    rw [List.length_cons] at hl9b
    have hy := hV 0 (by simp)
    change _ = y at hy
    refine v_aload_n (pc' := 118) F dX7_laysListed_117 rfl (j := 3) rfl rfl ?_
    refine v_getf (pc' := 121) (v := .int (nI kd)) F k_X7_laysListed_7 hm 9 (by decide) m_X7_laysListed_f79 rfl dX7_laysListed_118 rfl ?_
    refine w_if_eq (tgt := 153) (pc' := 124) F (by omega) dX7_laysListed_121 (by decide) rfl (fun c0 => absurd c0 hkd) (fun _ => ?_)
    refine v_iload_n (pc' := 125) F dX7_laysListed_124 rfl (j := 0) rfl rfl ?_
    refine w_if_lt (tgt := 153) (pc' := 128) F (by omega) dX7_laysListed_125 (by decide) rfl (fun c0 => absurd c0 (by omega)) (fun _ => ?_)
    refine v_aload_n (pc' := 129) F dX7_laysListed_128 rfl (j := 3) rfl rfl ?_
    refine v_getf (pc' := 132) (v := .ref lst) F k_X7_laysListed_7 hm 16 (by decide) m_X7_laysListed_f31 rfl dX7_laysListed_129 rfl ?_
    refine v_iload_n (pc' := 133) F dX7_laysListed_132 rfl (j := 2) rfl rfl ?_
    refine v_aload_n (pc' := 134) F dX7_laysListed_133 rfl (j := 3) rfl rfl ?_
    refine v_getf (pc' := 137) (v := .ref vals) F k_X7_laysListed_7 hm 5 (by decide) m_X7_laysListed_f16 rfl dX7_laysListed_134 rfl ?_
    refine v_sipush (pc' := 140) (v := nI 320) F dX7_laysListed_137 (by decide) rfl ?_
    refine v_iload_n (pc' := 141) F dX7_laysListed_140 rfl (j := 0) rfl rfl ?_
    refine v_iadd (pc' := 142) (v := nI 320) F dX7_laysListed_141 (g_eqn (nI_add 320 0) (by omega)) rfl ?_
    refine w_iald (pc' := 143) (v := y) F hvals (by omega) (by omega) hy dX7_laysListed_142 rfl ?_
    refine w_iast (pc' := 144) F hlst (by omega) (by omega) dX7_laysListed_143 rfl (fun h1 a2 f3 => ?_)
    refine v_iinc (pc' := 147) (j := 2) (x := nI d.length) (v := nI (d.length + 1)) (L' := [(1, .int (nI (d.length + 1))), (3, .int (nI 0)), (2, .int (nI mo)), (0, .ref m)]) F dX7_laysListed_144 rfl (nI_add d.length 1) (by decide) rfl rfl ?_
    refine v_iinc (pc' := 150) (j := 1) (x := nI 0) (v := (-1)) (L' := [(3, .int (-1)), (1, .int (nI (d.length + 1))), (2, .int (nI mo)), (0, .ref m)]) F dX7_laysListed_147 rfl (by decide) (by decide) rfl rfl ?_
    refine v_goto (tgt := 117) F dX7_laysListed_150 (by decide) ?_
    have fr4 : gfr [lst] h h1 := f3
    refine v_aload_n (pc' := 118) F dX7_laysListed_117 rfl (j := 3) rfl rfl ?_
    have g5 := f3 _ _ (gnc (g_neA hm hlst) gn0) hm
    refine v_getf (pc' := 121) (v := .int (nI kd)) F k_X7_laysListed_7 g5 9 (by decide) m_X7_laysListed_f79 rfl dX7_laysListed_118 rfl ?_
    refine w_if_eq (tgt := 153) (pc' := 124) F (by omega) dX7_laysListed_121 (by decide) rfl (fun c0 => absurd c0 hkd) (fun _ => ?_)
    refine v_iload_n (pc' := 125) F dX7_laysListed_124 rfl (j := 0) rfl rfl ?_
    refine v_if_lt (tgt := 153) (pc' := 128) F dX7_laysListed_125 (by decide) rfl (fun _ => ?_) (fun c0 => absurd (by decide) c0)
    refine v_sub (L' := [(3, .int (-1)), (2, .int (nI mo)), (1, .int (nI (d.length + 1))), (0, .ref m)]) [0, 2, 1, 3] rfl ?_
    have := K _ _ a2 (fHas.snoc hd) fr4
    rw [List.length_append, List.length_singleton] at this
    exact this
  | cons y2 ys ih =>
    have hl9b := hl9
    rw [List.length_cons, List.length_cons] at hl9b
    show gV G z0 X cells slots h 117 [(3, .int (nI (ys.length + 1))), (2, .int (nI mo)), (1, .int (nI d.length)), (0, .ref m)] []
    have hy := hV 0 (by simp)
    change _ = y at hy
    refine v_aload_n (pc' := 118) F dX7_laysListed_117 rfl (j := 3) rfl rfl ?_
    refine v_getf (pc' := 121) (v := .int (nI kd)) F k_X7_laysListed_7 hm 9 (by decide) m_X7_laysListed_f79 rfl dX7_laysListed_118 rfl ?_
    refine w_if_eq (tgt := 153) (pc' := 124) F (by omega) dX7_laysListed_121 (by decide) rfl (fun c0 => absurd c0 hkd) (fun _ => ?_)
    refine v_iload_n (pc' := 125) F dX7_laysListed_124 rfl (j := 0) rfl rfl ?_
    refine w_if_lt (tgt := 153) (pc' := 128) F (by omega) dX7_laysListed_125 (by decide) rfl (fun c0 => absurd c0 (by omega)) (fun _ => ?_)
    refine v_aload_n (pc' := 129) F dX7_laysListed_128 rfl (j := 3) rfl rfl ?_
    refine v_getf (pc' := 132) (v := .ref lst) F k_X7_laysListed_7 hm 16 (by decide) m_X7_laysListed_f31 rfl dX7_laysListed_129 rfl ?_
    refine v_iload_n (pc' := 133) F dX7_laysListed_132 rfl (j := 2) rfl rfl ?_
    refine v_aload_n (pc' := 134) F dX7_laysListed_133 rfl (j := 3) rfl rfl ?_
    refine v_getf (pc' := 137) (v := .ref vals) F k_X7_laysListed_7 hm 5 (by decide) m_X7_laysListed_f16 rfl dX7_laysListed_134 rfl ?_
    refine v_sipush (pc' := 140) (v := nI 320) F dX7_laysListed_137 (by decide) rfl ?_
    refine v_iload_n (pc' := 141) F dX7_laysListed_140 rfl (j := 0) rfl rfl ?_
    refine v_iadd (pc' := 142) (v := nI (320 + (ys.length + 1))) F dX7_laysListed_141 (nI_add 320 (ys.length + 1)) rfl ?_
    refine w_iald (pc' := 143) (v := y) F hvals (by omega) (by omega) hy dX7_laysListed_142 rfl ?_
    refine w_iast (pc' := 144) F hlst (by omega) (by omega) dX7_laysListed_143 rfl (fun h1 a2 f3 => ?_)
    refine v_iinc (pc' := 147) (j := 2) (x := nI d.length) (v := nI (d.length + 1)) (L' := [(1, .int (nI (d.length + 1))), (3, .int (nI (ys.length + 1))), (2, .int (nI mo)), (0, .ref m)]) F dX7_laysListed_144 rfl (nI_add d.length 1) (by decide) rfl rfl ?_
    refine v_iinc (pc' := 150) (j := 1) (x := nI (ys.length + 1)) (v := nI ys.length) (L' := [(3, .int (nI ys.length)), (1, .int (nI (d.length + 1))), (2, .int (nI mo)), (0, .ref m)]) F dX7_laysListed_147 rfl (g_dec (by omega)) (by decide) rfl rfl ?_
    refine v_goto (tgt := 117) F dX7_laysListed_150 (by decide) ?_
    have fr4 : gfr [lst] h h1 := f3
    refine v_sub (L' := [(3, .int (nI ys.length)), (2, .int (nI mo)), (1, .int (nI (d.length + 1))), (0, .ref m)]) [0, 2, 1, 3] rfl ?_
    rw [show d.length + 1 = (d ++ [y]).length by rw [List.length_append, List.length_singleton]]
    have g5 := f3 _ _ (gnc (g_neA hm hlst) gn0) hm
    have g6 := f3 _ _ (gnc (g_neL hvals hlst (by decide)) gn0) hvals
    have g7 := f3 _ _ (gnc (g_neL hmany hlst (by decide)) gn0) hmany
    exact ih (d := d ++ [y]) (y := y2) g5 g6 g7 a2 (fHas.snoc hd) (by rw [List.length_append, List.length_singleton, List.length_cons]; omega) (fun i hi => by have hi2 : i < ys.length + 1 := hi; have := hV (i + 1) (show i + 1 < ys.length + 1 + 1 by omega); rw [show 320 + (ys.length - i) = 320 + ((y2 :: ys).length - (i + 1)) by rw [List.length_cons]; omega]; exact this) (fun hA gA a1 a2 a3 => by have := K hA gA a1 (by rw [List.append_cons]; exact a2) (gfr.t fr4 a3); rw [List.append_cons] at this; exact this)

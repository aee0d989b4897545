theorem k_X7_passes_7 : gCl wsX7_passes 7 RX7 TX7 26 := ⟨by decide +kernel, rfl⟩
theorem m_X7_passes_f146 : Cond.fieldLink RX7 146 "SteadyQueuesModel" "spot" "I" ∈ wsX7_passes := by decide +kernel
theorem m_X7_passes_f149 : Cond.fieldLink RX7 149 "SteadyQueuesModel" "length" "I" ∈ wsX7_passes := by decide +kernel
theorem m_X7_passes_f34 : Cond.fieldLink RX7 34 "SteadyQueuesModel" "text" "[I" ∈ wsX7_passes := by decide +kernel
theorem hd_X7_isSmall : yX7_isSmall.cls ≠ "java/lang/invoke/MethodHandle" ∧ yX7_isSmall.cls ≠ "java/lang/invoke/VarHandle" ∧ (parseMethodDescriptor yX7_isSmall.desc).map (fun d => d.parameters.length) = some 1 := by decide +kernel
set_option maxHeartbeats 4000000 in
set_option maxRecDepth 100000 in
theorem lpA_X7_passes {G : gG} {z0 : Nat} {X : gX} {l : Launch} {mc ms cells slots r k s ln i : Nat} {h : gH} {m rows asd vals many way told oth lst text : Nat} {th now und fl rl kd ok st wm fed fa fat num frm may : Int32} {T : Nat → Int32} {t : Nat → Nat} (F : gF G z0 X cX7_passes 4 RX7 wsX7_passes (some .boolean) "passes" 4 85 mc ms) (hcc : cells ≤ mc) (hss : slots ≤ ms) (hm : h m = some (.inr (7, [.int th, .ref rows, .ref asd, .int now, .int und, .ref vals, .ref many, .int fl, .int rl, .int kd, .int ok, .int st, .ref way, .int wm, .ref told, .ref oth, .ref lst, .ref text, .int fed, .int (nI ln), .int (nI s), .int fa, .int fat, .int num, .int frm, .int may]))) (htext : h text = some (oI G 500 T)) (ht : ∀ j, j < ln → T j = nI (t j) ∧ t j < 256) (hln : ln ≤ 500) (hi : i < 4) (hr : s + k + r = ln) (K : gV G z0 X cells slots h 43 [(2, .int (nI (eL t r (s + k) - s))), (1, .ref (G.2.2 i)), (0, .ref m)] []) : gV G z0 X cells slots h 7 [(2, .int (nI k)), (1, .ref (G.2.2 i)), (0, .ref m)] [] := by
  induction r generalizing k with
  | zero =>
    refine v_aload_n (pc' := 8) F dX7_passes_7 rfl (j := 2) rfl rfl ?_
    refine v_getf (pc' := 11) (v := .int (nI s)) F k_X7_passes_7 hm 20 (by decide) m_X7_passes_f146 rfl dX7_passes_8 rfl ?_
    refine v_iload_n (pc' := 12) F dX7_passes_11 rfl (j := 0) rfl rfl ?_
    refine v_iadd (pc' := 13) (v := nI (s + k)) F dX7_passes_12 (nI_add s k) rfl ?_
    refine v_aload_n (pc' := 14) F dX7_passes_13 rfl (j := 2) rfl rfl ?_
    refine v_getf (pc' := 17) (v := .int (nI ln)) F k_X7_passes_7 hm 19 (by decide) m_X7_passes_f149 rfl dX7_passes_14 rfl ?_
    refine w_icmp_ge (tgt := 43) (pc' := 20) F (by omega) (by omega) dX7_passes_17 (by decide) rfl (fun _ => ?_) (fun c0 => absurd c0 (by omega))
    rw [show eL t 0 (s + k) - s = k by show s + k - s = k; omega] at K
    exact K
  | succ r ih =>
    obtain ⟨hTa, hta⟩ := ht (s + k) (by omega)
    refine v_aload_n (pc' := 8) F dX7_passes_7 rfl (j := 2) rfl rfl ?_
    refine v_getf (pc' := 11) (v := .int (nI s)) F k_X7_passes_7 hm 20 (by decide) m_X7_passes_f146 rfl dX7_passes_8 rfl ?_
    refine v_iload_n (pc' := 12) F dX7_passes_11 rfl (j := 0) rfl rfl ?_
    refine v_iadd (pc' := 13) (v := nI (s + k)) F dX7_passes_12 (nI_add s k) rfl ?_
    refine v_aload_n (pc' := 14) F dX7_passes_13 rfl (j := 2) rfl rfl ?_
    refine v_getf (pc' := 17) (v := .int (nI ln)) F k_X7_passes_7 hm 19 (by decide) m_X7_passes_f149 rfl dX7_passes_14 rfl ?_
    refine w_icmp_ge (tgt := 43) (pc' := 20) F (by omega) (by omega) dX7_passes_17 (by decide) rfl (fun c0 => absurd c0 (by omega)) (fun _ => ?_)
    refine v_aload_n (pc' := 21) F dX7_passes_20 rfl (j := 2) rfl rfl ?_
    refine v_getf (pc' := 24) (v := .ref text) F k_X7_passes_7 hm 17 (by decide) m_X7_passes_f34 rfl dX7_passes_21 rfl ?_
    refine v_aload_n (pc' := 25) F dX7_passes_24 rfl (j := 2) rfl rfl ?_
    refine v_getf (pc' := 28) (v := .int (nI s)) F k_X7_passes_7 hm 20 (by decide) m_X7_passes_f146 rfl dX7_passes_25 rfl ?_
    refine v_iload_n (pc' := 29) F dX7_passes_28 rfl (j := 0) rfl rfl ?_
    refine v_iadd (pc' := 30) (v := nI (s + k)) F dX7_passes_29 (nI_add s k) rfl ?_
    refine w_iald (pc' := 31) (v := nI (t (s + k))) F htext (by omega) (by omega) hTa dX7_passes_30 rfl ?_
    refine v_callS (pc' := 34) (rt := (some .boolean)) (mcc := 0) (msc := 0) (As := [.int (nI (t (s + k)))]) (st := []) F (fun l => c_X7_isSmall G z0 l hta) gX7_passes_X7_isSmall rfl hd_X7_isSmall (by decide) (by decide) rfl rfl (Nat.le_of_ble_eq_true rfl) (by omega) (by omega) dX7_passes_31 rfl (fun v1 h hqd => ?_)
    obtain ⟨rfl, rfl⟩ := hqd
    by_cases hd : 97 ≤ t (s + k) ∧ t (s + k) ≤ 122
    · rw [if_pos hd]
      refine w_if_eq (tgt := 43) (pc' := 37) F (by omega) dX7_passes_34 (by decide) rfl (fun c0 => absurd c0 (by omega)) (fun _ => ?_)
      refine v_iinc (pc' := 40) (j := 0) (x := nI k) (v := nI (k + 1)) (L' := [(2, .int (nI (k + 1))), (1, .ref (G.2.2 i)), (0, .ref m)]) F dX7_passes_37 rfl (nI_add k 1) (by decide) rfl rfl ?_
      refine v_goto (tgt := 7) F dX7_passes_40 (by decide) ?_
      refine v_sub (L' := [(2, .int (nI (k + 1))), (1, .ref (G.2.2 i)), (0, .ref m)]) [0, 1, 2] rfl ?_
      have e1 : eL t (r + 1) (s + k) = eL t r (s + (k + 1)) := if_pos hd
      rw [e1] at K
      exact ih (k := k + 1) (by omega) K
    · rw [if_neg hd]
      refine w_if_eq (tgt := 43) (pc' := 37) F (by omega) dX7_passes_34 (by decide) rfl (fun _ => ?_) (fun c0 => absurd c0 (by omega))
      have e1 : eL t (r + 1) (s + k) = s + k := if_neg hd
      rw [e1, show s + k - s = k by omega] at K
      exact K
set_option maxHeartbeats 4000000 in
set_option maxRecDepth 100000 in
theorem lpB_X7_passes {G : gG} {z0 : Nat} {X : gX} {l : Launch} {post : Option Value → gH → Prop} {mc ms cells slots r k s ln i N : Nat} {h : gH} {m rows asd vals many way told oth lst text : Nat} {th now und fl rl kd ok st wm fed fa fat num frm may : Int32} {T : Nat → Int32} {t : Nat → Nat} (F : gF G z0 X cX7_passes 4 RX7 wsX7_passes (some .boolean) "passes" 4 85 mc ms) (E : gE G z0 X post mc ms) (hcc : cells ≤ mc) (hss : slots ≤ ms) (hm : h m = some (.inr (7, [.int th, .ref rows, .ref asd, .int now, .int und, .ref vals, .ref many, .int fl, .int rl, .int kd, .int ok, .int st, .ref way, .int wm, .ref told, .ref oth, .ref lst, .ref text, .int fed, .int (nI ln), .int (nI s), .int fa, .int fat, .int num, .int frm, .int may]))) (htext : h text = some (oI G 500 T)) (ht : ∀ j, j < ln → T j = nI (t j) ∧ t j < 256) (hln : ln ≤ 500) (hi : i < 4) (hN : N = (wb i).length) (hNl : s + N ≤ ln) (hr : k + r = N) (hpT : mtF t i s r k = true → ∀ h' : gH, h' m = some (.inr (7, [.int th, .ref rows, .ref asd, .int now, .int und, .ref vals, .ref many, .int fl, .int rl, .int kd, .int ok, .int st, .ref way, .int wm, .ref told, .ref oth, .ref lst, .ref text, .int fed, .int (nI ln), .int (nI (s + N)), .int fa, .int fat, .int num, .int frm, .int may])) → gfr [m] h h' → post (some (.int (nI 1))) h') (hpF : mtF t i s r k = false → h m = some (.inr (7, [.int th, .ref rows, .ref asd, .int now, .int und, .ref vals, .ref many, .int fl, .int rl, .int kd, .int ok, .int st, .ref way, .int wm, .ref told, .ref oth, .ref lst, .ref text, .int fed, .int (nI ln), .int (nI s), .int fa, .int fat, .int num, .int frm, .int may])) → post (some (.int (nI 0))) h) : gV G z0 X cells slots h 55 [(3, .int (nI k)), (2, .int (nI N)), (1, .ref (G.2.2 i)), (0, .ref m)] [] := by
  have hw := wb_ok i hi
  induction r generalizing k with
  | zero =>
    obtain rfl : k = N := by omega
    refine v_iload_n (pc' := 56) F dX7_passes_55 rfl (j := 0) rfl rfl ?_
    refine v_iload_n (pc' := 57) F dX7_passes_56 rfl (j := 1) rfl rfl ?_
    refine w_icmp_ge (tgt := 87) (pc' := 60) F (by omega) (by omega) dX7_passes_57 (by decide) rfl (fun _ => ?_) (fun c0 => absurd c0 (by omega))
    refine v_aload_n (pc' := 88) F dX7_passes_87 rfl (j := 3) rfl rfl ?_
    refine v_dup (pc' := 89) F dX7_passes_88 rfl rfl ?_
    refine v_getf (pc' := 92) (v := .int (nI s)) F k_X7_passes_7 hm 20 (by decide) m_X7_passes_f146 rfl dX7_passes_89 rfl ?_
    refine v_iload_n (pc' := 93) F dX7_passes_92 rfl (j := 1) rfl rfl ?_
    refine v_iadd (pc' := 94) (v := nI (s + k)) F dX7_passes_93 (nI_add s k) rfl ?_
    refine w_putf (pc' := 97) F k_X7_passes_7 tyX7_ok nmX7 hm 20 (by decide) m_X7_passes_f146 rfl  rfl rfl (show 20 < 26 by decide) [.int th, .ref rows, .ref asd, .int now, .int und, .ref vals, .ref many, .int fl, .int rl, .int kd, .int ok, .int st, .ref way, .int wm, .ref told, .ref oth, .ref lst, .ref text, .int fed, .int (nI ln), .int (nI (s + k)), .int fa, .int fat, .int num, .int frm, .int may] rfl dX7_passes_94 rfl (fun h1 a2 f3 => ?_)
    refine v_iconst (pc' := 98) (v := nI 1) F dX7_passes_97 (by decide) rfl ?_
    have fr4 : gfr [m] h h1 := f3
    refine v_zret F E (by omega) (by omega) (by decide) dX7_passes_98 ?_
    exact hpT rfl _ a2 fr4
  | succ r ih =>
    obtain ⟨hTa, hta⟩ := ht (s + k) (by omega)
    have hwk := hw.2.2 k (by omega)
    refine v_iload_n (pc' := 56) F dX7_passes_55 rfl (j := 0) rfl rfl ?_
    refine v_iload_n (pc' := 57) F dX7_passes_56 rfl (j := 1) rfl rfl ?_
    refine w_icmp_ge (tgt := 87) (pc' := 60) F (by omega) (by omega) dX7_passes_57 (by decide) rfl (fun c0 => absurd c0 (by omega)) (fun _ => ?_)
    refine v_aload_n (pc' := 61) F dX7_passes_60 rfl (j := 3) rfl rfl ?_
    refine v_getf (pc' := 64) (v := .ref text) F k_X7_passes_7 hm 17 (by decide) m_X7_passes_f34 rfl dX7_passes_61 rfl ?_
    refine v_aload_n (pc' := 65) F dX7_passes_64 rfl (j := 3) rfl rfl ?_
    refine v_getf (pc' := 68) (v := .int (nI s)) F k_X7_passes_7 hm 20 (by decide) m_X7_passes_f146 rfl dX7_passes_65 rfl ?_
    refine v_iload_n (pc' := 69) F dX7_passes_68 rfl (j := 0) rfl rfl ?_
    refine v_iadd (pc' := 70) (v := nI (s + k)) F dX7_passes_69 (nI_add s k) rfl ?_
    refine w_iald (pc' := 71) (v := nI (t (s + k))) F htext (by omega) (by omega) hTa dX7_passes_70 rfl ?_
    refine v_aload_n (pc' := 72) F dX7_passes_71 rfl (j := 2) rfl rfl ?_
    refine v_iload_n (pc' := 73) F dX7_passes_72 rfl (j := 0) rfl rfl ?_
    refine v_callVS (pc' := 76) (rt := (some .char)) (mcc := 0) (msc := 0) (As := [.int (nI k)]) (st := [.int (nI (t (s + k)))]) F (fun l => c_J0_charAt_5068e G z0 l hi (by rw [hw.1]; omega)) gX7_passes_J0_charAt_5068e rfl hv_J0_charAt_5068e (by decide) (by decide) hi rfl rfl (Nat.le_of_ble_eq_true rfl) (by omega) (by omega) dX7_passes_73 rfl (fun v1 h hqj => ?_)
    obtain ⟨rfl, rfl⟩ := hqj
    rw [hwk.1]
    refine w_icmp_eq (tgt := 81) (pc' := 79) F (by omega) (by omega) dX7_passes_76 (by decide) rfl (fun c0 => ?_) (fun c0 => ?_)
    · refine v_iinc (pc' := 84) (j := 0) (x := nI k) (v := nI (k + 1)) (L' := [(3, .int (nI (k + 1))), (2, .int (nI N)), (1, .ref (G.2.2 i)), (0, .ref m)]) F dX7_passes_81 rfl (nI_add k 1) (by decide) rfl rfl ?_
      refine v_goto (tgt := 55) F dX7_passes_84 (by decide) ?_
      refine v_sub (L' := [(3, .int (nI (k + 1))), (2, .int (nI N)), (1, .ref (G.2.2 i)), (0, .ref m)]) [0, 1, 2, 3] rfl ?_
      have e1 : mtF t i s (r + 1) k = mtF t i s r (k + 1) := if_pos c0
      rw [e1] at hpT hpF
      exact ih (k := k + 1) (by omega) hpT hpF
    · have e1 : mtF t i s (r + 1) k = false := if_neg c0
      refine v_iconst (pc' := 80) (v := nI 0) F dX7_passes_79 (by decide) rfl ?_
      refine v_zret F E (by omega) (by omega) (by decide) dX7_passes_80 ?_
      exact hpF e1 hm
set_option maxHeartbeats 4000000 in
set_option maxRecDepth 100000 in
theorem c_X7_passes (G : gG) (z0 : Nat) (l : Launch) {a ln i : Nat} {h : gH} {m rows asd vals many way told oth lst text : Nat} {th now und fl rl kd ok st wm fed fa fat num frm may : Int32} {T : Nat → Int32} {t : Nat → Nat} (hm : h m = some (.inr (7, [.int th, .ref rows, .ref asd, .int now, .int und, .ref vals, .ref many, .int fl, .int rl, .int kd, .int ok, .int st, .ref way, .int wm, .ref told, .ref oth, .ref lst, .ref text, .int fed, .int (nI ln), .int (nI a), .int fa, .int fat, .int num, .int frm, .int may]))) (htext : h text = some (oI G 500 T)) (ht : ∀ j, j < ln → T j = nI (t j) ∧ t j < 256) (hln : ln ≤ 500) (ha : a ≤ ln) (hi : i < 4) : gC G z0 l yX7_passes wsX7_passes 4 85 [.ref m, .ref (G.2.2 i)] h (fun v h' => v = some (.int (if isW t i (sk t ln a) (eL t (ln - (sk t ln a)) (sk t ln a)) = true then nI 1 else nI 0)) ∧ h' m = some (.inr (7, [.int th, .ref rows, .ref asd, .int now, .int und, .ref vals, .ref many, .int fl, .int rl, .int kd, .int ok, .int st, .ref way, .int wm, .ref told, .ref oth, .ref lst, .ref text, .int fed, .int (nI ln), .int (nI (if isW t i (sk t ln a) (eL t (ln - (sk t ln a)) (sk t ln a)) = true then (eL t (ln - (sk t ln a)) (sk t ln a)) else (sk t ln a))), .int fa, .int fat, .int num, .int frm, .int may])) ∧ gfr [m] h h') 0 0 := by
  have hsb := sk_b t ha
  have heb := eL_b t (ln - (sk t ln a)) (sk t ln a)
  have hw := wb_ok i hi
  refine gC_of (cc := cX7_passes) (nL := 4) (ret := (some .boolean)) (by decide) rfl (Nat.le_of_ble_eq_true rfl) ?_
  intro X F E _
  change gF G z0 X cX7_passes 4 RX7 wsX7_passes (some .boolean) "passes" 4 85 _ _ at F
  show gV G z0 X 0 0 h 0 [(0, .ref m), (1, .ref (G.2.2 i))] []
  refine v_aload_n (pc' := 1) F dX7_passes_0 rfl (j := 0) rfl rfl ?_
  refine v_callV (pc' := 4) (rt := (some .int)) (mcc := 0) (msc := 0) (As := []) (st := []) F (fun l => c_X7_here G z0 l (a := a) hm htext ht hln (by omega)) gX7_passes_X7_here rfl hv_X7_here (by decide) (by decide) hm rfl rfl rfl (Nat.le_of_ble_eq_true rfl) (by omega) (by omega) dX7_passes_1 rfl (fun v2 h1 hqh => ?_)
  obtain ⟨hv9, hmH, frH⟩ := hqh
  subst hv9
  refine v_pop (pc' := 5) F dX7_passes_4 rfl rfl ?_
  refine v_iconst (pc' := 6) (v := nI 0) F dX7_passes_5 (by decide) rfl ?_
  refine v_istore_n (pc' := 7) (i := 2) (L' := [(2, .int (nI 0)), (0, .ref m), (1, .ref (G.2.2 i))]) F dX7_passes_6 rfl (by decide) rfl rfl ?_
  refine v_sub (L' := [(2, .int (nI 0)), (1, .ref (G.2.2 i)), (0, .ref m)]) [0, 2, 1] rfl ?_
  have g3 := frH _ _ (gnc (Ne.symm (g_neA hm htext)) gn0) htext
  refine lpA_X7_passes (l := l) (k := 0) (s := (sk t ln a)) (r := ln - (sk t ln a)) F (by omega) (by omega) hmH g3 ht hln hi (by omega) ?_
  rw [show (sk t ln a) + 0 = (sk t ln a) from rfl]
  show gV G z0 X 0 0 h1 43 [(2, .int (nI ((eL t (ln - (sk t ln a)) (sk t ln a)) - (sk t ln a)))), (1, .ref (G.2.2 i)), (0, .ref m)] []
  refine v_iload_n (pc' := 44) F dX7_passes_43 rfl (j := 0) rfl rfl ?_
  refine v_aload_n (pc' := 45) F dX7_passes_44 rfl (j := 1) rfl rfl ?_
  refine v_callVS (pc' := 48) (rt := (some .int)) (mcc := 0) (msc := 0) (As := []) (st := [.int (nI ((eL t (ln - (sk t ln a)) (sk t ln a)) - (sk t ln a)))]) F (fun l => c_J0_length_8abf5 G z0 l hi) gX7_passes_J0_length_8abf5 rfl hv_J0_length_8abf5 (by decide) (by decide) hi rfl rfl (Nat.le_of_ble_eq_true rfl) (by omega) (by omega) dX7_passes_45 rfl (fun v4 h1 hqj => ?_)
  obtain ⟨rfl, rfl⟩ := hqj
  rw [hw.1]
  refine w_icmp_eq (tgt := 53) (pc' := 51) F (by omega) (by omega) dX7_passes_48 (by decide) rfl (fun c0 => ?_) (fun c0 => ?_)
  · refine v_iconst (pc' := 54) (v := nI 0) F dX7_passes_53 (by decide) rfl ?_
    refine v_istore_n (pc' := 55) (i := 3) (L' := [(3, .int (nI 0)), (2, .int (nI ((eL t (ln - (sk t ln a)) (sk t ln a)) - (sk t ln a)))), (1, .ref (G.2.2 i)), (0, .ref m)]) F dX7_passes_54 rfl (by decide) rfl rfl ?_
    refine v_sub (L' := [(3, .int (nI 0)), (2, .int (nI ((eL t (ln - (sk t ln a)) (sk t ln a)) - (sk t ln a)))), (1, .ref (G.2.2 i)), (0, .ref m)]) [0, 1, 2, 3] rfl ?_
    have e1 : isW t i (sk t ln a) (eL t (ln - (sk t ln a)) (sk t ln a)) = mtF t i (sk t ln a) (wb i).length 0 := if_pos c0
    refine lpB_X7_passes (l := l) (k := 0) (s := (sk t ln a)) (r := (wb i).length) F E (by omega) (by omega) hmH g3 ht hln hi c0 (by omega) (by omega) (fun zt hA a1 a2 => ⟨by rw [e1, if_pos zt], by rw [e1, if_pos zt, show (eL t (ln - (sk t ln a)) (sk t ln a)) = (sk t ln a) + ((eL t (ln - (sk t ln a)) (sk t ln a)) - (sk t ln a)) by omega]; exact a1, gfr.t frH a2⟩) (fun zf a1 => ⟨by rw [e1, zf]; rfl, by rw [e1, zf]; exact a1, frH⟩)
  · have e1 : isW t i (sk t ln a) (eL t (ln - (sk t ln a)) (sk t ln a)) = false := if_neg c0
    refine v_iconst (pc' := 52) (v := nI 0) F dX7_passes_51 (by decide) rfl ?_
    refine v_zret F E (by omega) (by omega) (by decide) dX7_passes_52 ?_
    exact ⟨by rw [e1]; rfl, by rw [e1]; exact hmH, frH⟩
theorem isW_len {t : Nat → Nat} {i s e : Nat} (h : isW t i s e = true) : e - s = (wb i).length := by
  unfold isW at h
  split at h
  · assumption
  · exact absurd h (by decide)
theorem mtF_at {t : Nat → Nat} {i s : Nat} : ∀ (m j k : Nat), mtF t i s m j = true → j ≤ k → k < j + m → t (s + k) = (wb i).getD k 0
  | 0, j, k, _, h1, h2 => by omega
  | m + 1, j, k, h, h1, h2 => by
    unfold mtF at h
    split at h
    · next hc =>
      by_cases e : k = j
      · rw [e]; exact hc
      · exact mtF_at m (j + 1) k h (by omega) (by omega)
    · exact absurd h (by decide)
theorem isW_at {t : Nat → Nat} {i s e k : Nat} (h : isW t i s e = true) (hk : k < (wb i).length) : t (s + k) = (wb i).getD k 0 := by
  have hl := isW_len h
  unfold isW at h
  rw [if_pos hl] at h
  exact mtF_at _ 0 k h (Nat.zero_le _) (by omega)
theorem isW_one {t : Nat → Nat} {i j s e : Nat} (hi : i < 4) (hj : j < 4) (a : isW t i s e = true) (b : isW t j s e = true) : i = j := by
  have l1 := isW_len a
  have l2 := isW_len b
  have a1 := fun k hk => isW_at (k := k) a hk
  have b1 := fun k hk => isW_at (k := k) b hk
  rcases (show i = 0 ∨ i = 1 ∨ i = 2 ∨ i = 3 by omega) with rfl | rfl | rfl | rfl <;> rcases (show j = 0 ∨ j = 1 ∨ j = 2 ∨ j = 3 by omega) with rfl | rfl | rfl | rfl <;> first | rfl | (exfalso; rw [l1] at l2; exact absurd l2 (by decide)) | (exfalso; have c1 := a1 1 (by decide); have c2 := b1 1 (by decide); rw [c1] at c2; exact absurd c2 (by decide))
/-- a word's kind is that of its letters -/
theorem kd_word {t : Nat → Nat} {ln s i : Nat} (hi : i < 4) : kdT t ln s = 4 + i ↔ isW t i s (eL t (ln - s) s) = true := by
  constructor
  · intro h
    unfold kdT at h
    by_cases h1 : ln ≤ s
    · rw [if_pos h1] at h; omega
    · rw [if_neg h1] at h
      by_cases h2 : 48 ≤ t s ∧ t s ≤ 57
      · rw [if_pos h2] at h; omega
      · rw [if_neg h2] at h
        by_cases h3 : 97 ≤ t s ∧ t s ≤ 122
        · rw [if_pos h3] at h
          unfold wkd at h
          by_cases k0 : isW t 0 s (eL t (ln - s) s) = true
          · rw [if_pos k0] at h
            obtain rfl : i = 0 := by omega
            exact k0
          · rw [if_neg k0] at h
            by_cases k1 : isW t 1 s (eL t (ln - s) s) = true
            · rw [if_pos k1] at h
              obtain rfl : i = 1 := by omega
              exact k1
            · rw [if_neg k1] at h
              by_cases k2 : isW t 2 s (eL t (ln - s) s) = true
              · rw [if_pos k2] at h
                obtain rfl : i = 2 := by omega
                exact k2
              · rw [if_neg k2] at h
                by_cases k3 : isW t 3 s (eL t (ln - s) s) = true
                · rw [if_pos k3] at h
                  obtain rfl : i = 3 := by omega
                  exact k3
                · rw [if_neg k3] at h; omega
        · rw [if_neg h3] at h
          split at h <;> omega
  · intro h
    have hl := isW_len h
    have hwl : 0 < (wb i).length := by rcases (show i = 0 ∨ i = 1 ∨ i = 2 ∨ i = 3 by omega) with rfl | rfl | rfl | rfl <;> decide
    have hls : s < ln := by
      rcases Nat.lt_or_ge s ln with z | z
      · exact z
      · exfalso
        rw [show ln - s = 0 by omega] at hl
        unfold eL at hl
        omega
    have hle : 97 ≤ t s ∧ t s ≤ 122 := by
      by_cases z : 97 ≤ t s ∧ t s ≤ 122
      · exact z
      · exfalso
        obtain ⟨m, hm⟩ : ∃ m, ln - s = m + 1 := ⟨ln - s - 1, by omega⟩
        rw [hm] at hl
        unfold eL at hl
        rw [if_neg z] at hl
        omega
    unfold kdT
    rw [if_neg (by omega), if_neg (by omega), if_pos hle]
    have hno : ∀ j, j < 4 → j ≠ i → ¬ isW t j s (eL t (ln - s) s) = true := fun j hj hne z => hne (isW_one hj hi z h)
    unfold wkd
    rcases (show i = 0 ∨ i = 1 ∨ i = 2 ∨ i = 3 by omega) with rfl | rfl | rfl | rfl
    · rw [if_pos h]
    · rw [if_neg (hno 0 (by omega) (by omega)), if_pos h]
    · rw [if_neg (hno 0 (by omega) (by omega)), if_neg (hno 1 (by omega) (by omega)), if_pos h]
    · rw [if_neg (hno 0 (by omega) (by omega)), if_neg (hno 1 (by omega) (by omega)), if_neg (hno 2 (by omega) (by omega)), if_pos h]
theorem en_word {t : Nat → Nat} {ln s i : Nat} (hi : i < 4) (h : kdT t ln s = 4 + i) : enT t ln s = eL t (ln - s) s ∧ s ≤ ln := by
  unfold kdT at h
  unfold enT
  by_cases h1 : ln ≤ s
  · rw [if_pos h1] at h; omega
  · rw [if_neg h1] at h ⊢
    by_cases h2 : 48 ≤ t s ∧ t s ≤ 57
    · rw [if_pos h2] at h; omega
    · rw [if_neg h2] at h ⊢
      by_cases h3 : 97 ≤ t s ∧ t s ≤ 122
      · rw [if_pos h3]
        exact ⟨rfl, by omega⟩
      · rw [if_neg h3] at h
        split at h <;> omega
theorem y_X7_passes (G : gG) (z0 : Nat) (l : Launch) {a ln i : Nat} {h : gH} {m rows asd vals many way told oth lst text : Nat} {th now und fl rl kd ok st wm fed fa fat num frm may : Int32} {T : Nat → Int32} {t : Nat → Nat} (hm : h m = some (.inr (7, [.int th, .ref rows, .ref asd, .int now, .int und, .ref vals, .ref many, .int fl, .int rl, .int kd, .int ok, .int st, .ref way, .int wm, .ref told, .ref oth, .ref lst, .ref text, .int fed, .int (nI ln), .int (nI a), .int fa, .int fat, .int num, .int frm, .int may]))) (htext : h text = some (oI G 500 T)) (ht : ∀ j, j < ln → T j = nI (t j) ∧ t j < 256) (hln : ln ≤ 500) (ha : a ≤ ln) (hi : i < 4) (hk : kdT t ln (sk t ln a) = 4 + i) : gC G z0 l yX7_passes wsX7_passes 4 85 [.ref m, .ref (G.2.2 i)] h (fun v h' => v = some (.int (nI 1)) ∧ h' m = some (.inr (7, [.int th, .ref rows, .ref asd, .int now, .int und, .ref vals, .ref many, .int fl, .int rl, .int kd, .int ok, .int st, .ref way, .int wm, .ref told, .ref oth, .ref lst, .ref text, .int fed, .int (nI ln), .int (nI (enT t ln (sk t ln a))), .int fa, .int fat, .int num, .int frm, .int may])) ∧ gfr [m] h h') 0 0 := by
  have zw : isW t i (sk t ln a) (eL t (ln - (sk t ln a)) (sk t ln a)) = true := (kd_word hi).mp hk
  refine gC_weak (c_X7_passes G z0 l hm htext ht hln ha hi) (fun o h' hq => ?_)
  obtain ⟨h1, h2, h3⟩ := hq
  rw [if_pos zw] at h1 h2
  exact ⟨h1, by rw [(en_word hi hk).1]; exact h2, h3⟩
theorem n_X7_passes (G : gG) (z0 : Nat) (l : Launch) {a ln i : Nat} {h : gH} {m rows asd vals many way told oth lst text : Nat} {th now und fl rl kd ok st wm fed fa fat num frm may : Int32} {T : Nat → Int32} {t : Nat → Nat} (hm : h m = some (.inr (7, [.int th, .ref rows, .ref asd, .int now, .int und, .ref vals, .ref many, .int fl, .int rl, .int kd, .int ok, .int st, .ref way, .int wm, .ref told, .ref oth, .ref lst, .ref text, .int fed, .int (nI ln), .int (nI a), .int fa, .int fat, .int num, .int frm, .int may]))) (htext : h text = some (oI G 500 T)) (ht : ∀ j, j < ln → T j = nI (t j) ∧ t j < 256) (hln : ln ≤ 500) (ha : a ≤ ln) (hi : i < 4) (hk : ¬ kdT t ln (sk t ln a) = 4 + i) : gC G z0 l yX7_passes wsX7_passes 4 85 [.ref m, .ref (G.2.2 i)] h (fun v h' => v = some (.int (nI 0)) ∧ h' m = some (.inr (7, [.int th, .ref rows, .ref asd, .int now, .int und, .ref vals, .ref many, .int fl, .int rl, .int kd, .int ok, .int st, .ref way, .int wm, .ref told, .ref oth, .ref lst, .ref text, .int fed, .int (nI ln), .int (nI (sk t ln a)), .int fa, .int fat, .int num, .int frm, .int may])) ∧ gfr [m] h h') 0 0 := by
  have zw : ¬ isW t i (sk t ln a) (eL t (ln - (sk t ln a)) (sk t ln a)) = true := fun z => hk ((kd_word hi).mpr z)
  refine gC_weak (c_X7_passes G z0 l hm htext ht hln ha hi) (fun o h' hq => ?_)
  obtain ⟨h1, h2, h3⟩ := hq
  rw [if_neg zw] at h1 h2
  exact ⟨h1, h2, h3⟩

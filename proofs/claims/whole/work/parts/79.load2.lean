theorem k_X7_load_7 : gCl wsX7_load 7 RX7 TX7 26 := ⟨by decide +kernel, rfl⟩
theorem m_X7_load_f13 : Cond.fieldLink RX7 13 "SteadyQueuesModel" "aside" "[I" ∈ wsX7_load := by decide +kernel
set_option maxHeartbeats 4000000 in
set_option maxRecDepth 100000 in
theorem lpA_X7_load {G : gG} {z0 : Nat} {X : gX} {l : Launch} {mc ms cells slots j k w : Nat} {h : gH} {m rows asd now vals many way told oth lst text : Nat} {th und fl rl kd ok st wm fed len spot fa fat num frm may : Int32} {R A : Nat → Int32} (F : gF G z0 X cX7_load 5 RX7 wsX7_load (some .int) "load" 8 175 mc ms) (hcc : cells ≤ mc) (hss : slots ≤ ms) (hnow : now < 9) (hm : h m = some (.inr (7, [.int th, .ref rows, .ref asd, .int (nI now), .int und, .ref vals, .ref many, .int fl, .int rl, .int kd, .int ok, .int st, .ref way, .int wm, .ref told, .ref oth, .ref lst, .ref text, .int fed, .int len, .int spot, .int fa, .int fat, .int num, .int frm, .int may]))) (hrows : h rows = some (oI G 2970 R)) (hasd : h asd = some (oI G 330 A)) (hkj : k + j = 330) (hA : ∀ i, i < k → A i = R (330 * now + i)) (K : ∀ (h' : gH) (A' : Nat → Int32), h' asd = some (oI G 330 A') → (∀ i, i < 330 → A' i = R (330 * now + i)) → gfr [asd] h h' → gV G z0 X cells slots h' 75 [(2, .int (nI 330)), (1, .int (nI w)), (0, .ref m)] []) : gV G z0 X cells slots h 51 [(2, .int (nI k)), (1, .int (nI w)), (0, .ref m)] [] := by
  induction j generalizing k h A with
  | zero =>
    obtain rfl : k = 330 := by omega
    refine v_iload_n (pc' := 52) F dX7_load_51 rfl (j := 0) rfl rfl ?_
    refine v_sipush (pc' := 55) (v := nI 330) F dX7_load_52 (by decide) rfl ?_
    refine w_icmp_ge (tgt := 75) (pc' := 58) F (by omega) (by omega) dX7_load_55 (by decide) rfl (fun _ => ?_) (fun c0 => absurd c0 (by omega))
    exact K h A hasd hA gfr.rf
  | succ j ih =>
    refine v_iload_n (pc' := 52) F dX7_load_51 rfl (j := 0) rfl rfl ?_
    refine v_sipush (pc' := 55) (v := nI 330) F dX7_load_52 (by decide) rfl ?_
    refine w_icmp_ge (tgt := 75) (pc' := 58) F (by omega) (by omega) dX7_load_55 (by decide) rfl (fun c0 => absurd c0 (by omega)) (fun _ => ?_)
    refine v_aload_n (pc' := 59) F dX7_load_58 rfl (j := 2) rfl rfl ?_
    refine v_getf (pc' := 62) (v := .ref asd) F k_X7_load_7 hm 2 (by decide) m_X7_load_f13 rfl dX7_load_59 rfl ?_
    refine v_iload_n (pc' := 63) F dX7_load_62 rfl (j := 0) rfl rfl ?_
    refine v_aload_n (pc' := 64) F dX7_load_63 rfl (j := 2) rfl rfl ?_
    refine v_iload_n (pc' := 65) F dX7_load_64 rfl (j := 0) rfl rfl ?_
    refine v_callV (pc' := 68) (rt := (some .int)) (mcc := 0) (msc := 0) (As := [.int (nI k)]) (st := [.int (nI k), .ref asd]) F (fun l => c_X7_get G z0 l (k := k) hm hrows hnow (by omega)) gX7_load_X7_get rfl hv_X7_get (by decide) (by decide) hm rfl rfl rfl (Nat.le_of_ble_eq_true rfl) (by omega) (by omega) dX7_load_65 rfl (fun v1 h hqg => ?_)
    obtain ⟨rfl, rfl⟩ := hqg
    refine w_iast (pc' := 69) F hasd (by omega) (by omega) dX7_load_68 rfl (fun h2 a3 f4 => ?_)
    refine v_iinc (pc' := 72) (j := 0) (x := nI k) (v := nI (k + 1)) (L' := [(2, .int (nI (k + 1))), (1, .int (nI w)), (0, .ref m)]) F dX7_load_69 rfl (nI_add k 1) (by decide) rfl rfl ?_
    refine v_goto (tgt := 51) F dX7_load_72 (by decide) ?_
    have fr5 : gfr [asd] h h2 := f4
    refine v_sub (L' := [(2, .int (nI (k + 1))), (1, .int (nI w)), (0, .ref m)]) [0, 1, 2] rfl ?_
    have g6 := f4 _ _ (gnc (g_neA hm hasd) gn0) hm
    have g7 := f4 _ _ (gnc (g_neL hrows hasd (by decide)) gn0) hrows
    refine ih (k := k + 1) g6 g7 a3 (by omega) (fun i hi => ?_) (fun hX AX a1 a2 a3 => K hX AX a1 a2 (gfr.t fr5 a3))
    by_cases ei : i = k
    · subst ei; rw [upd_eq]
    · rw [upd_ne ei]; exact hA i (by omega)
set_option maxHeartbeats 4000000 in
set_option maxRecDepth 100000 in
theorem lpB0_X7_load {G : gG} {z0 : Nat} {X : gX} {l : Launch} {mc ms cells slots j k w : Nat} {h : gH} {m rows asd now vals many way told oth lst text : Nat} {th und fl rl kd ok st wm fed len spot fa fat num frm may : Int32} {R R2 A R0 : Nat → Int32} (F : gF G z0 X cX7_load 5 RX7 wsX7_load (some .int) "load" 8 175 mc ms) (hcc : cells ≤ mc) (hss : slots ≤ ms) (hnow : now < 9) (hm : h m = some (.inr (7, [.int th, .ref rows, .ref asd, .int (nI now), .int und, .ref vals, .ref many, .int fl, .int rl, .int kd, .int ok, .int st, .ref way, .int wm, .ref told, .ref oth, .ref lst, .ref text, .int fed, .int len, .int spot, .int fa, .int fat, .int num, .int frm, .int may]))) (hrows : h rows = some (oI G 2970 R)) (hasd : h asd = some (oI G 330 A)) (hAR : ∀ i, i < 330 → A i = R0 (330 * now + i)) (hkj : k + j = 330) (hB : (∀ i, i < k → R (330 * now + i) = A i)) (hC : (∀ q, (q < 330 * now ∨ 330 * now + k ≤ q) → R q = R2 q)) (K : ∀ (h' : gH) (R' : Nat → Int32), h' rows = some (oI G 2970 R') → (∀ i, i < 330 → R' (330 * now + i) = A i) → (∀ q, (q < 330 * now ∨ 330 * now + 330 ≤ q) → R' q = R2 q) → gfr [rows] h h' → gV G z0 X cells slots h' 143 [(4, .int (nI 330)), (3, .int (nI ((now + 1) % 9))), (2, .int (nI 0)), (1, .int (nI w)), (0, .ref m)] []) : gV G z0 X cells slots h 93 [(4, .int (nI k)), (3, .int (nI ((now + 1) % 9))), (2, .int (nI 0)), (1, .int (nI w)), (0, .ref m)] [] := by
  have hlt : (now + 1) % 9 < 9 := Nat.mod_lt _ (by omega)
  induction j generalizing k h R with
  | zero =>
    obtain rfl : k = 330 := by omega
    refine v_iload (pc' := 95) F dX7_load_93  (j := 0) rfl rfl ?_
    refine v_sipush (pc' := 98) (v := nI 330) F dX7_load_95 (by decide) rfl ?_
    refine w_icmp_ge (tgt := 143) (pc' := 101) F (by omega) (by omega) dX7_load_98 (by decide) rfl (fun _ => ?_) (fun c0 => absurd c0 (by omega))
    exact K h R hrows hB hC gfr.rf
  | succ j ih =>
    have hRn : R (330 * now + k) = R2 (330 * now + k) := hC _ (by omega)
    have hAk := hAR k (by omega)
    refine v_iload (pc' := 95) F dX7_load_93  (j := 0) rfl rfl ?_
    refine v_sipush (pc' := 98) (v := nI 330) F dX7_load_95 (by decide) rfl ?_
    refine w_icmp_ge (tgt := 143) (pc' := 101) F (by omega) (by omega) dX7_load_98 (by decide) rfl (fun c0 => absurd c0 (by omega)) (fun _ => ?_)
    refine v_iload_n (pc' := 102) F dX7_load_101 rfl (j := 2) rfl rfl ?_
    refine w_if_eq (tgt := 124) (pc' := 105) F (by omega) dX7_load_102 (by decide) rfl (fun _ => ?_) (fun c0 => absurd c0 (by omega))
    refine v_aload_n (pc' := 125) F dX7_load_124 rfl (j := 4) rfl rfl ?_
    refine v_iload (pc' := 127) F dX7_load_125  (j := 0) rfl rfl ?_
    refine v_aload_n (pc' := 128) F dX7_load_127 rfl (j := 4) rfl rfl ?_
    refine v_getf (pc' := 131) (v := .ref asd) F k_X7_load_7 hm 2 (by decide) m_X7_load_f13 rfl dX7_load_128 rfl ?_
    refine v_iload (pc' := 133) F dX7_load_131  (j := 0) rfl rfl ?_
    refine w_iald (pc' := 134) (v := A k) F hasd (by omega) (by omega) rfl dX7_load_133 rfl ?_
    refine v_callV (pc' := 137) (rt := none) (mcc := 0) (msc := 0) (As := [.int (nI k), .int (A k)]) (st := []) F (fun l => c_X7_put G z0 l (k := k) (A k) hm hrows hnow (by omega)) gX7_load_X7_put rfl hv_X7_put (by decide) (by decide) hm rfl rfl rfl (Nat.le_of_ble_eq_true rfl) (by omega) (by omega) dX7_load_134 rfl (fun v2 h1 hqw => ?_)
    obtain ⟨rfl, rR3, frR3⟩ := hqw
    have eR3 : ∀ q, q ≠ 330 * now + k → upd R (330 * now + k) (A k) q = R q := fun q hq => upd_ne hq
    have fR3 : upd R (330 * now + k) (A k) (330 * now + k) = (A k) := upd_eq _ _ _
    generalize upd R (330 * now + k) (A k) = R3 at rR3 eR3 fR3
    refine v_iinc (pc' := 140) (j := 0) (x := nI k) (v := nI (k + 1)) (L' := [(4, .int (nI (k + 1))), (3, .int (nI ((now + 1) % 9))), (2, .int (nI 0)), (1, .int (nI w)), (0, .ref m)]) F dX7_load_137 rfl (nI_add k 1) (by decide) rfl rfl ?_
    refine v_goto (tgt := 93) F dX7_load_140 (by decide) ?_
    have fr3 : gfr [rows] h h1 := frR3
    refine v_sub (L' := [(4, .int (nI (k + 1))), (3, .int (nI ((now + 1) % 9))), (2, .int (nI 0)), (1, .int (nI w)), (0, .ref m)]) [0, 1, 2, 3, 4] rfl ?_
    have g4 := frR3 _ _ (gnc (g_neA hm hrows) gn0) hm
    have g5 := frR3 _ _ (gnc (g_neL hasd hrows (by decide)) gn0) hasd
    refine ih (k := k + 1) g4 rR3 g5 (by omega) (fun i hi => ?_) (fun q h2 => ?_) (fun hX RX a1 a3 a4 a5 => K hX RX a1 a3 a4 (gfr.t fr3 a5))
    · by_cases ei : i = k
      · subst ei; exact fR3
      · rw [eR3 _ (by omega)]; exact hB i (by omega)
    · rw [eR3 q (by omega)]; exact hC q (by omega)
theorem m_X7_load_f7 : Cond.fieldLink RX7 7 "SteadyQueuesModel" "rows" "[I" ∈ wsX7_load := by decide +kernel
set_option maxHeartbeats 4000000 in
set_option maxRecDepth 100000 in
theorem lpB1_X7_load {G : gG} {z0 : Nat} {X : gX} {l : Launch} {mc ms cells slots j k w : Nat} {h : gH} {m rows asd now vals many way told oth lst text : Nat} {th und fl rl kd ok st wm fed len spot fa fat num frm may : Int32} {R R2 A R0 : Nat → Int32} (F : gF G z0 X cX7_load 5 RX7 wsX7_load (some .int) "load" 8 175 mc ms) (hcc : cells ≤ mc) (hss : slots ≤ ms) (hnow : now < 9) (hm : h m = some (.inr (7, [.int th, .ref rows, .ref asd, .int (nI now), .int und, .ref vals, .ref many, .int fl, .int rl, .int kd, .int ok, .int st, .ref way, .int wm, .ref told, .ref oth, .ref lst, .ref text, .int fed, .int len, .int spot, .int fa, .int fat, .int num, .int frm, .int may]))) (hrows : h rows = some (oI G 2970 R)) (hasd : h asd = some (oI G 330 A)) (hAR : ∀ i, i < 330 → A i = R0 (330 * now + i)) (hkj : k + j = 330) (hN : (∀ i, i < k → R (330 * ((now + 1) % 9) + i) = R2 (330 * now + i))) (hB : (∀ i, i < k → R (330 * now + i) = A i)) (hC : (∀ q, (q < 330 * ((now + 1) % 9) ∨ 330 * ((now + 1) % 9) + k ≤ q) → (q < 330 * now ∨ 330 * now + k ≤ q) → R q = R2 q)) (K : ∀ (h' : gH) (R' : Nat → Int32), h' rows = some (oI G 2970 R') → (∀ i, i < 330 → R' (330 * ((now + 1) % 9) + i) = R2 (330 * now + i)) → (∀ i, i < 330 → R' (330 * now + i) = A i) → (∀ q, (q < 330 * ((now + 1) % 9) ∨ 330 * ((now + 1) % 9) + 330 ≤ q) → (q < 330 * now ∨ 330 * now + 330 ≤ q) → R' q = R2 q) → gfr [rows] h h' → gV G z0 X cells slots h' 143 [(4, .int (nI 330)), (3, .int (nI ((now + 1) % 9))), (2, .int (nI 1)), (1, .int (nI w)), (0, .ref m)] []) : gV G z0 X cells slots h 93 [(4, .int (nI k)), (3, .int (nI ((now + 1) % 9))), (2, .int (nI 1)), (1, .int (nI w)), (0, .ref m)] [] := by
  have hlt : (now + 1) % 9 < 9 := Nat.mod_lt _ (by omega)
  induction j generalizing k h R with
  | zero =>
    obtain rfl : k = 330 := by omega
    refine v_iload (pc' := 95) F dX7_load_93  (j := 0) rfl rfl ?_
    refine v_sipush (pc' := 98) (v := nI 330) F dX7_load_95 (by decide) rfl ?_
    refine w_icmp_ge (tgt := 143) (pc' := 101) F (by omega) (by omega) dX7_load_98 (by decide) rfl (fun _ => ?_) (fun c0 => absurd c0 (by omega))
    exact K h R hrows hN hB hC gfr.rf
  | succ j ih =>
    have hRn : R (330 * now + k) = R2 (330 * now + k) := hC _ (by omega) (by omega)
    have hAk := hAR k (by omega)
    refine v_iload (pc' := 95) F dX7_load_93  (j := 0) rfl rfl ?_
    refine v_sipush (pc' := 98) (v := nI 330) F dX7_load_95 (by decide) rfl ?_
    refine w_icmp_ge (tgt := 143) (pc' := 101) F (by omega) (by omega) dX7_load_98 (by decide) rfl (fun c0 => absurd c0 (by omega)) (fun _ => ?_)
    refine v_iload_n (pc' := 102) F dX7_load_101 rfl (j := 2) rfl rfl ?_
    refine w_if_eq (tgt := 124) (pc' := 105) F (by omega) dX7_load_102 (by decide) rfl (fun c0 => absurd c0 (by omega)) (fun _ => ?_)
    refine v_aload_n (pc' := 106) F dX7_load_105 rfl (j := 4) rfl rfl ?_
    refine v_getf (pc' := 109) (v := .ref rows) F k_X7_load_7 hm 1 (by decide) m_X7_load_f7 rfl dX7_load_106 rfl ?_
    refine v_sipush (pc' := 112) (v := nI 330) F dX7_load_109 (by decide) rfl ?_
    refine v_iload_n (pc' := 113) F dX7_load_112 rfl (j := 1) rfl rfl ?_
    refine v_imul (pc' := 114) (v := nI (330 * ((now + 1) % 9))) F dX7_load_113 (pk_mul 330 ((now + 1) % 9)) rfl ?_
    refine v_iload (pc' := 116) F dX7_load_114  (j := 0) rfl rfl ?_
    refine v_iadd (pc' := 117) (v := nI ((330 * ((now + 1) % 9)) + k)) F dX7_load_116 (nI_add (330 * ((now + 1) % 9)) k) rfl ?_
    refine v_aload_n (pc' := 118) F dX7_load_117 rfl (j := 4) rfl rfl ?_
    refine v_iload (pc' := 120) F dX7_load_118  (j := 0) rfl rfl ?_
    refine v_callV (pc' := 123) (rt := (some .int)) (mcc := 0) (msc := 0) (As := [.int (nI k)]) (st := [.int (nI ((330 * ((now + 1) % 9)) + k)), .ref rows]) F (fun l => c_X7_get G z0 l (k := k) hm hrows hnow (by omega)) gX7_load_X7_get rfl hv_X7_get (by decide) (by decide) hm rfl rfl rfl (Nat.le_of_ble_eq_true rfl) (by omega) (by omega) dX7_load_120 rfl (fun v1 h hqg => ?_)
    obtain ⟨rfl, rfl⟩ := hqg
    refine w_iast (pc' := 124) F hrows (by omega) (by omega) dX7_load_123 rfl (fun h2 a3 f4 => ?_)
    have eR1 : ∀ q, q ≠ 330 * ((now + 1) % 9) + k → upd R (330 * ((now + 1) % 9) + k) (R (330 * now + k)) q = R q := fun q hq => upd_ne hq
    have fR1 : upd R (330 * ((now + 1) % 9) + k) (R (330 * now + k)) (330 * ((now + 1) % 9) + k) = R (330 * now + k) := upd_eq _ _ _
    generalize upd R (330 * ((now + 1) % 9) + k) (R (330 * now + k)) = R1 at a3 eR1 fR1
    refine v_aload_n (pc' := 125) F dX7_load_124 rfl (j := 4) rfl rfl ?_
    refine v_iload (pc' := 127) F dX7_load_125  (j := 0) rfl rfl ?_
    refine v_aload_n (pc' := 128) F dX7_load_127 rfl (j := 4) rfl rfl ?_
    have g5 := f4 _ _ (gnc (g_neA hm hrows) gn0) hm
    refine v_getf (pc' := 131) (v := .ref asd) F k_X7_load_7 g5 2 (by decide) m_X7_load_f13 rfl dX7_load_128 rfl ?_
    refine v_iload (pc' := 133) F dX7_load_131  (j := 0) rfl rfl ?_
    have g6 := f4 _ _ (gnc (g_neL hasd hrows (by decide)) gn0) hasd
    refine w_iald (pc' := 134) (v := A k) F g6 (by omega) (by omega) rfl dX7_load_133 rfl ?_
    refine v_callV (pc' := 137) (rt := none) (mcc := 0) (msc := 0) (As := [.int (nI k), .int (A k)]) (st := []) F (fun l => c_X7_put G z0 l (k := k) (A k) g5 a3 hnow (by omega)) gX7_load_X7_put rfl hv_X7_put (by decide) (by decide) g5 rfl rfl rfl (Nat.le_of_ble_eq_true rfl) (by omega) (by omega) dX7_load_134 rfl (fun v8 h7 hqw => ?_)
    obtain ⟨rfl, rR3, frR3⟩ := hqw
    have eR3 : ∀ q, q ≠ 330 * now + k → upd R1 (330 * now + k) (A k) q = R1 q := fun q hq => upd_ne hq
    have fR3 : upd R1 (330 * now + k) (A k) (330 * now + k) = (A k) := upd_eq _ _ _
    generalize upd R1 (330 * now + k) (A k) = R3 at rR3 eR3 fR3
    refine v_iinc (pc' := 140) (j := 0) (x := nI k) (v := nI (k + 1)) (L' := [(4, .int (nI (k + 1))), (3, .int (nI ((now + 1) % 9))), (2, .int (nI 1)), (1, .int (nI w)), (0, .ref m)]) F dX7_load_137 rfl (nI_add k 1) (by decide) rfl rfl ?_
    refine v_goto (tgt := 93) F dX7_load_140 (by decide) ?_
    have fr9 : gfr [rows] h h7 := (gfr.t f4 frR3)
    refine v_sub (L' := [(4, .int (nI (k + 1))), (3, .int (nI ((now + 1) % 9))), (2, .int (nI 1)), (1, .int (nI w)), (0, .ref m)]) [0, 1, 2, 3, 4] rfl ?_
    have g10 := frR3 _ _ (gnc (g_neA g5 a3) gn0) g5
    have g11 := frR3 _ _ (gnc (g_neL g6 a3 (by decide)) gn0) g6
    refine ih (k := k + 1) g10 rR3 g11 (by omega) (fun i hi => ?_) (fun i hi => ?_) (fun q h1 h2 => ?_) (fun hX RX a1 a2 a3 a4 a5 => K hX RX a1 a2 a3 a4 (gfr.t fr9 a5))
    · by_cases ei : i = k
      · subst ei; rw [eR3 _ (by omega), fR1, hRn]
      · rw [eR3 _ (by omega), eR1 _ (by omega)]; exact hN i (by omega)
    · by_cases ei : i = k
      · subst ei; exact fR3
      · rw [eR3 _ (by omega), eR1 _ (by omega)]; exact hB i (by omega)
    · rw [eR3 q (by omega), eR1 q (by omega)]; exact hC q (by omega) (by omega)
theorem m_X7_load_f44 : Cond.fieldLink RX7 44 "SteadyQueuesModel" "thrown" "I" ∈ wsX7_load := by decide +kernel
theorem m_X7_load_f137 : Cond.fieldLink RX7 137 "SteadyQueuesModel" "fed" "I" ∈ wsX7_load := by decide +kernel
set_option maxHeartbeats 4000000 in
set_option maxRecDepth 100000 in
theorem o1_X7_load (G : gG) (z0 : Nat) (l : Launch) {h : gH} {m rows asd vals many way told oth lst text now : Nat} {th len spot fa fat num frm may : Int32} {ud bl : Nat} {R T A : Nat → Int32} {t : Nat → Nat} (hMS : mS G h m rows asd vals many way told oth lst text th now (nI ud) (nI bl) len spot fa fat num frm may R) (hnow : now < 9) (hud : ud ≤ 8) (hasd : h asd = some (oI G 330 A)) (htext : h text = some (oI G 500 T)) (ht : ∀ j, j < bl → T j = nI (t j) ∧ t j < 256) (hbl : bl ≤ 500) (x : Int32) (hxx : ¬ iR x (bl + 1)) : gC G z0 l yX7_load wsX7_load 8 175 [.ref m, .int x] h (fun o h' => (∃ y9, o = some (.int y9)) ∧ mS G h' m rows asd vals many way told oth lst text (nI 1) now (nI ud) (nI bl) len spot fa fat num frm may R ∧ gfr [m, vals, many, way, told, oth, lst] h h') 0 0 := by
  have hMS0 := hMS
  obtain ⟨fl, rl, kd, ok, st, wm, hm, hrows, ⟨V, hvals⟩, ⟨M, hmany⟩, ⟨W, hway⟩, ⟨f, htold⟩, ⟨g, hoth⟩, ⟨ll, hlst⟩, htw, how, hto⟩ := hMS
  refine gC_of (cc := cX7_load) (nL := 5) (ret := (some .int)) (by decide) rfl (Nat.le_of_ble_eq_true rfl) ?_
  intro X F E _
  change gF G z0 X cX7_load 5 RX7 wsX7_load (some .int) "load" 8 175 _ _ at F
  show gV G z0 X 0 0 h 0 [(0, .ref m), (1, .int x)] []
  refine v_aload_n (pc' := 1) F dX7_load_0 rfl (j := 0) rfl rfl ?_
  refine v_iconst (pc' := 2) (v := nI 0) F dX7_load_1 (by decide) rfl ?_
  refine w_putf (pc' := 5) F k_X7_load_7 tyX7_ok nmX7 hm 0 (by decide) m_X7_load_f44 rfl  rfl rfl (show 0 < 26 by decide) [.int (nI 0), .ref rows, .ref asd, .int (nI now), .int (nI ud), .ref vals, .ref many, .int fl, .int rl, .int kd, .int ok, .int st, .ref way, .int wm, .ref told, .ref oth, .ref lst, .ref text, .int (nI bl), .int len, .int spot, .int fa, .int fat, .int num, .int frm, .int may] rfl dX7_load_2 rfl (fun h1 a2 f3 => ?_)
  refine v_aload_n (pc' := 6) F dX7_load_5 rfl (j := 0) rfl rfl ?_
  refine v_iload_n (pc' := 7) F dX7_load_6 rfl (j := 1) rfl rfl ?_
  refine v_iconst (pc' := 8) (v := nI 0) F dX7_load_7 (by decide) rfl ?_
  refine v_aload_n (pc' := 9) F dX7_load_8 rfl (j := 0) rfl rfl ?_
  refine v_getf (pc' := 12) (v := .int (nI bl)) F k_X7_load_7 a2 18 (by decide) m_X7_load_f137 rfl dX7_load_9 rfl ?_
  have hi9 : ¬ (nI 0 ≤ x ∧ x ≤ nI bl) := fun z => hxx ((bR_iff (n := bl + 1) (by omega) (by omega)).mp z)
  refine v_callS (pc' := 15) (rt := (some .boolean)) (mcc := 0) (msc := 0) (As := [.int x, .int (nI 0), .int (nI bl)]) (st := [.ref m]) F (fun l => c_X7_isIn G z0 l x (nI 0) (nI bl)) gX7_load_X7_isIn rfl hd_X7_isIn (by decide) (by decide) rfl rfl (Nat.le_of_ble_eq_true rfl) (by omega) (by omega) dX7_load_12 rfl (fun v4 h1 hqi => ?_)
  rw [if_neg hi9] at hqi; obtain ⟨rfl, rfl⟩ := hqi
  refine v_iconst (pc' := 16) (v := nI 1) F dX7_load_15 (by decide) rfl ?_
  refine v_callV (pc' := 19) (rt := (some .boolean)) (mcc := 0) (msc := 0) (As := [.int (nI 0), .int (nI 1)]) (st := []) F (fun l => c_X7_right0 G z0 l (th := nI 0) (nI 1) (by decide) a2) gX7_load_X7_right rfl hv_X7_right (by decide) (by decide) a2 rfl rfl rfl (Nat.le_of_ble_eq_true rfl) (by omega) (by omega) dX7_load_16 rfl (fun v6 h5 hqr => ?_)
  obtain ⟨rfl, hmR, frR⟩ := hqr
  refine w_if_ne (tgt := 24) (pc' := 22) F (by omega) dX7_load_19 (by decide) rfl (fun c0 => absurd c0 (by omega)) (fun _ => ?_)
  refine v_iconst (pc' := 23) (v := nI 0) F dX7_load_22 (by decide) rfl ?_
  have fr7 : gfr [m, vals, many, way, told, oth, lst] h h5 := (gfr.t (gfr.mono f3 (by intro q9 z9 m9; apply z9; simp only [List.mem_cons, List.not_mem_nil, or_false] at m9 ⊢; omega)) (gfr.mono frR (by intro q9 z9 m9; apply z9; simp only [List.mem_cons, List.not_mem_nil, or_false] at m9 ⊢; omega)))
  have g8 := f3 _ _ (gnc (Ne.symm (g_neA hm hrows)) gn0) hrows
  have g9 := frR _ _ (gnc (Ne.symm (g_neA a2 g8)) gn0) g8
  have g10 := f3 _ _ (gnc (Ne.symm (g_neA hm hvals)) gn0) hvals
  have g11 := frR _ _ (gnc (Ne.symm (g_neA a2 g10)) gn0) g10
  have g12 := f3 _ _ (gnc (Ne.symm (g_neA hm hmany)) gn0) hmany
  have g13 := frR _ _ (gnc (Ne.symm (g_neA a2 g12)) gn0) g12
  have g14 := f3 _ _ (gnc (Ne.symm (g_neA hm hway)) gn0) hway
  have g15 := frR _ _ (gnc (Ne.symm (g_neA a2 g14)) gn0) g14
  have g16 := f3 _ _ (gnc (Ne.symm (g_neA hm htold)) gn0) htold
  have g17 := frR _ _ (gnc (Ne.symm (g_neA a2 g16)) gn0) g16
  have g18 := f3 _ _ (gnc (Ne.symm (g_neA hm hoth)) gn0) hoth
  have g19 := frR _ _ (gnc (Ne.symm (g_neA a2 g18)) gn0) g18
  have g20 := f3 _ _ (gnc (Ne.symm (g_neA hm hlst)) gn0) hlst
  have g21 := frR _ _ (gnc (Ne.symm (g_neA a2 g20)) gn0) g20
  exact v_iret F E (by omega) (by omega)  dX7_load_23 ⟨⟨_, rfl⟩, ⟨_, _, _, _, _, _, hmR, g9, ⟨_, g11⟩, ⟨_, g13⟩, ⟨_, g15⟩, ⟨_, g17⟩, ⟨_, g19⟩, ⟨_, g21⟩, htw, how, hto⟩, fr7⟩
theorem m_X7_load_f149 : Cond.fieldLink RX7 149 "SteadyQueuesModel" "length" "I" ∈ wsX7_load := by decide +kernel
theorem m_X7_load_f146 : Cond.fieldLink RX7 146 "SteadyQueuesModel" "spot" "I" ∈ wsX7_load := by decide +kernel
theorem m_X7_load_f143 : Cond.fieldLink RX7 143 "SteadyQueuesModel" "fault" "I" ∈ wsX7_load := by decide +kernel
theorem m_X7_load_f37 : Cond.fieldLink RX7 37 "SteadyQueuesModel" "faultAt" "I" ∈ wsX7_load := by decide +kernel
theorem hv_X7_readsText : yX7_readsText.cls = RX7 ∧ yX7_readsText.cls ≠ "java/lang/invoke/MethodHandle" ∧ yX7_readsText.cls ≠ "java/lang/invoke/VarHandle" ∧ (parseMethodDescriptor yX7_readsText.desc).map (fun d => d.parameters.length) = some 0 := by decide +kernel
theorem m_X7_load_f47 : Cond.fieldLink RX7 47 "SteadyQueuesModel" "now" "I" ∈ wsX7_load := by decide +kernel
theorem m_X7_load_f58 : Cond.fieldLink RX7 58 "SteadyQueuesModel" "undoable" "I" ∈ wsX7_load := by decide +kernel
set_option maxHeartbeats 4000000 in
set_option maxRecDepth 100000 in
theorem c_X7_load (G : gG) (z0 : Nat) (l : Launch) {h : gH} {m rows asd vals many way told oth lst text now : Nat} {th len spot fa fat num frm may : Int32} {ud bl : Nat} {R T A : Nat → Int32} {t : Nat → Nat} {w : Nat} (hMS : mS G h m rows asd vals many way told oth lst text th now (nI ud) (nI bl) len spot fa fat num frm may R) (hnow : now < 9) (hud : ud ≤ 8) (hasd : h asd = some (oI G 330 A)) (htext : h text = some (oI G 500 T)) (ht : ∀ j, j < bl → T j = nI (t j) ∧ t j < 256) (hbl : bl ≤ 500) (hw : w ≤ bl) : gC G z0 l yX7_load wsX7_load 8 175 [.ref m, .int (nI w)] h (fun o h' => (match pAll t w with | .inl e => o = some (.int e.1) ∧ (∃ (ln9 sp9 fa9 nu9 fr9 my9 : Int32) (R' : Nat → Int32), mS G h' m rows asd vals many way told oth lst text (nI 0) now (nI ud) (nI 0) ln9 sp9 fa9 (nI e.2.1) nu9 fr9 my9 R' ∧ ∀ q, R' q = R q) | .inr q => o = some (.int (nI q.2.1)) ∧ (∃ (ln9 sp9 fa9 nu9 fr9 my9 : Int32) (R' : Nat → Int32), mS G h' m rows asd vals many way told oth lst text (nI 0) ((now + 1) % 9) (nI (min 8 (ud + 1))) (nI 0) ln9 sp9 fa9 (-1) nu9 fr9 my9 R' ∧ wfD q.2 ∧ slD R' (330 * ((now + 1) % 9)) q.2 ∧ (∀ q, (q < 330 * ((now + 1) % 9) ∨ 330 * ((now + 1) % 9) + 330 ≤ q) → R' q = R q))) ∧ gfr [asd, rows, m, vals, many, way, told, oth, lst] h h') 0 0 := by
  have hMS0 := hMS
  obtain ⟨fl, rl, kd, ok, st, wm, hm, hrows, ⟨V, hvals⟩, ⟨M, hmany⟩, ⟨W, hway⟩, ⟨f, htold⟩, ⟨g, hoth⟩, ⟨ll, hlst⟩, htw, how, hto⟩ := hMS
  refine gC_of (cc := cX7_load) (nL := 5) (ret := (some .int)) (by decide) rfl (Nat.le_of_ble_eq_true rfl) ?_
  intro X F E _
  change gF G z0 X cX7_load 5 RX7 wsX7_load (some .int) "load" 8 175 _ _ at F
  show gV G z0 X 0 0 h 0 [(0, .ref m), (1, .int (nI w))] []
  refine v_aload_n (pc' := 1) F dX7_load_0 rfl (j := 0) rfl rfl ?_
  refine v_iconst (pc' := 2) (v := nI 0) F dX7_load_1 (by decide) rfl ?_
  refine w_putf (pc' := 5) F k_X7_load_7 tyX7_ok nmX7 hm 0 (by decide) m_X7_load_f44 rfl  rfl rfl (show 0 < 26 by decide) [.int (nI 0), .ref rows, .ref asd, .int (nI now), .int (nI ud), .ref vals, .ref many, .int fl, .int rl, .int kd, .int ok, .int st, .ref way, .int wm, .ref told, .ref oth, .ref lst, .ref text, .int (nI bl), .int len, .int spot, .int fa, .int fat, .int num, .int frm, .int may] rfl dX7_load_2 rfl (fun h1 a2 f3 => ?_)
  refine v_aload_n (pc' := 6) F dX7_load_5 rfl (j := 0) rfl rfl ?_
  refine v_iload_n (pc' := 7) F dX7_load_6 rfl (j := 1) rfl rfl ?_
  refine v_iconst (pc' := 8) (v := nI 0) F dX7_load_7 (by decide) rfl ?_
  refine v_aload_n (pc' := 9) F dX7_load_8 rfl (j := 0) rfl rfl ?_
  refine v_getf (pc' := 12) (v := .int (nI bl)) F k_X7_load_7 a2 18 (by decide) m_X7_load_f137 rfl dX7_load_9 rfl ?_
  have hi9 : (nI 0 ≤ (nI w) ∧ (nI w) ≤ nI bl) := (bR_iff (n := bl + 1) (by omega) (by omega)).mpr ⟨w, by omega, rfl⟩
  refine v_callS (pc' := 15) (rt := (some .boolean)) (mcc := 0) (msc := 0) (As := [.int (nI w), .int (nI 0), .int (nI bl)]) (st := [.ref m]) F (fun l => c_X7_isIn G z0 l (nI w) (nI 0) (nI bl)) gX7_load_X7_isIn rfl hd_X7_isIn (by decide) (by decide) rfl rfl (Nat.le_of_ble_eq_true rfl) (by omega) (by omega) dX7_load_12 rfl (fun v4 h1 hqi => ?_)
  rw [if_pos hi9] at hqi; obtain ⟨rfl, rfl⟩ := hqi
  refine v_iconst (pc' := 16) (v := nI 1) F dX7_load_15 (by decide) rfl ?_
  refine v_callV (pc' := 19) (rt := (some .boolean)) (mcc := 0) (msc := 0) (As := [.int (nI 1), .int (nI 1)]) (st := []) F (fun l => c_X7_right1 G z0 l (th := nI 0) (nI 1) (by decide) a2) gX7_load_X7_right rfl hv_X7_right (by decide) (by decide) a2 rfl rfl rfl (Nat.le_of_ble_eq_true rfl) (by omega) (by omega) dX7_load_16 rfl (fun v5 h1 hqr => ?_)
  obtain ⟨rfl, rfl⟩ := hqr
  refine w_if_ne (tgt := 24) (pc' := 22) F (by omega) dX7_load_19 (by decide) rfl (fun _ => ?_) (fun c0 => absurd c0 (by omega))
  refine v_aload_n (pc' := 25) F dX7_load_24 rfl (j := 0) rfl rfl ?_
  refine v_iload_n (pc' := 26) F dX7_load_25 rfl (j := 1) rfl rfl ?_
  refine w_putf (pc' := 29) F k_X7_load_7 tyX7_ok nmX7 a2 19 (by decide) m_X7_load_f149 rfl  rfl rfl (show 19 < 26 by decide) [.int (nI 0), .ref rows, .ref asd, .int (nI now), .int (nI ud), .ref vals, .ref many, .int fl, .int rl, .int kd, .int ok, .int st, .ref way, .int wm, .ref told, .ref oth, .ref lst, .ref text, .int (nI bl), .int (nI w), .int spot, .int fa, .int fat, .int num, .int frm, .int may] rfl dX7_load_26 rfl (fun h6 a7 f8 => ?_)
  refine v_aload_n (pc' := 30) F dX7_load_29 rfl (j := 0) rfl rfl ?_
  refine v_iconst (pc' := 31) (v := nI 0) F dX7_load_30 (by decide) rfl ?_
  refine w_putf (pc' := 34) F k_X7_load_7 tyX7_ok nmX7 a7 20 (by decide) m_X7_load_f146 rfl  rfl rfl (show 20 < 26 by decide) [.int (nI 0), .ref rows, .ref asd, .int (nI now), .int (nI ud), .ref vals, .ref many, .int fl, .int rl, .int kd, .int ok, .int st, .ref way, .int wm, .ref told, .ref oth, .ref lst, .ref text, .int (nI bl), .int (nI w), .int (nI 0), .int fa, .int fat, .int num, .int frm, .int may] rfl dX7_load_31 rfl (fun h9 a10 f11 => ?_)
  refine v_aload_n (pc' := 35) F dX7_load_34 rfl (j := 0) rfl rfl ?_
  refine v_iconst (pc' := 36) (v := nI 0) F dX7_load_35 (by decide) rfl ?_
  refine w_putf (pc' := 39) F k_X7_load_7 tyX7_ok nmX7 a10 18 (by decide) m_X7_load_f137 rfl  rfl rfl (show 18 < 26 by decide) [.int (nI 0), .ref rows, .ref asd, .int (nI now), .int (nI ud), .ref vals, .ref many, .int fl, .int rl, .int kd, .int ok, .int st, .ref way, .int wm, .ref told, .ref oth, .ref lst, .ref text, .int (nI 0), .int (nI w), .int (nI 0), .int fa, .int fat, .int num, .int frm, .int may] rfl dX7_load_36 rfl (fun h12 a13 f14 => ?_)
  refine v_aload_n (pc' := 40) F dX7_load_39 rfl (j := 0) rfl rfl ?_
  refine v_iconst (pc' := 41) (v := nI 0) F dX7_load_40 (by decide) rfl ?_
  refine w_putf (pc' := 44) F k_X7_load_7 tyX7_ok nmX7 a13 21 (by decide) m_X7_load_f143 rfl  rfl rfl (show 21 < 26 by decide) [.int (nI 0), .ref rows, .ref asd, .int (nI now), .int (nI ud), .ref vals, .ref many, .int fl, .int rl, .int kd, .int ok, .int st, .ref way, .int wm, .ref told, .ref oth, .ref lst, .ref text, .int (nI 0), .int (nI w), .int (nI 0), .int (nI 0), .int fat, .int num, .int frm, .int may] rfl dX7_load_41 rfl (fun h15 a16 f17 => ?_)
  refine v_aload_n (pc' := 45) F dX7_load_44 rfl (j := 0) rfl rfl ?_
  refine v_iconst (pc' := 46) (v := (-1)) F dX7_load_45 (by decide) rfl ?_
  refine w_putf (pc' := 49) F k_X7_load_7 tyX7_ok nmX7 a16 22 (by decide) m_X7_load_f37 rfl  rfl rfl (show 22 < 26 by decide) [.int (nI 0), .ref rows, .ref asd, .int (nI now), .int (nI ud), .ref vals, .ref many, .int fl, .int rl, .int kd, .int ok, .int st, .ref way, .int wm, .ref told, .ref oth, .ref lst, .ref text, .int (nI 0), .int (nI w), .int (nI 0), .int (nI 0), .int (-1), .int num, .int frm, .int may] rfl dX7_load_46 rfl (fun h18 a19 f20 => ?_)
  refine v_iconst (pc' := 50) (v := nI 0) F dX7_load_49 (by decide) rfl ?_
  refine v_istore_n (pc' := 51) (i := 2) (L' := [(2, .int (nI 0)), (0, .ref m), (1, .int (nI w))]) F dX7_load_50 rfl (by decide) rfl rfl ?_
  refine v_sub (L' := [(2, .int (nI 0)), (1, .int (nI w)), (0, .ref m)]) [0, 2, 1] rfl ?_
  have g21 := f3 _ _ (gnc (Ne.symm (g_neA hm hasd)) gn0) hasd
  have g22 := f8 _ _ (gnc (Ne.symm (g_neA a2 g21)) gn0) g21
  have g23 := f11 _ _ (gnc (Ne.symm (g_neA a7 g22)) gn0) g22
  have g24 := f14 _ _ (gnc (Ne.symm (g_neA a10 g23)) gn0) g23
  have g25 := f17 _ _ (gnc (Ne.symm (g_neA a13 g24)) gn0) g24
  have g26 := f20 _ _ (gnc (Ne.symm (g_neA a16 g25)) gn0) g25
  have fr27 : gfr [asd, rows, m, vals, many, way, told, oth, lst] h h18 := (gfr.t (gfr.mono f3 (by intro q9 z9 m9; apply z9; simp only [List.mem_cons, List.not_mem_nil, or_false] at m9 ⊢; omega)) (gfr.t (gfr.mono f8 (by intro q9 z9 m9; apply z9; simp only [List.mem_cons, List.not_mem_nil, or_false] at m9 ⊢; omega)) (gfr.t (gfr.mono f11 (by intro q9 z9 m9; apply z9; simp only [List.mem_cons, List.not_mem_nil, or_false] at m9 ⊢; omega)) (gfr.t (gfr.mono f14 (by intro q9 z9 m9; apply z9; simp only [List.mem_cons, List.not_mem_nil, or_false] at m9 ⊢; omega)) (gfr.t (gfr.mono f17 (by intro q9 z9 m9; apply z9; simp only [List.mem_cons, List.not_mem_nil, or_false] at m9 ⊢; omega)) (gfr.mono f20 (by intro q9 z9 m9; apply z9; simp only [List.mem_cons, List.not_mem_nil, or_false] at m9 ⊢; omega)))))))
  have g28 := f3 _ _ (gnc (Ne.symm (g_neA hm hrows)) gn0) hrows
  have g29 := f8 _ _ (gnc (Ne.symm (g_neA a2 g28)) gn0) g28
  have g30 := f11 _ _ (gnc (Ne.symm (g_neA a7 g29)) gn0) g29
  have g31 := f14 _ _ (gnc (Ne.symm (g_neA a10 g30)) gn0) g30
  have g32 := f17 _ _ (gnc (Ne.symm (g_neA a13 g31)) gn0) g31
  have g33 := f20 _ _ (gnc (Ne.symm (g_neA a16 g32)) gn0) g32
  refine lpA_X7_load (l := l) (k := 0) (j := 330) F (by omega) (by omega) hnow a19 g33 g26 (by omega) (fun i hi => absurd hi (by omega)) (fun hX AX hAX hAR frX => ?_)
  show gV G z0 X 0 0 hX 75 [(2, .int (nI 330)), (1, .int (nI w)), (0, .ref m)] []
  refine v_aload_n (pc' := 76) F dX7_load_75 rfl (j := 2) rfl rfl ?_
  have g34 := frX _ _ (gnc (g_neA a19 g26) gn0) a19
  have g35 := frX _ _ (gnc (g_neL g33 g26 (by decide)) gn0) g33
  have g36 := f3 _ _ (gnc (Ne.symm (g_neA hm hvals)) gn0) hvals
  have g37 := f8 _ _ (gnc (Ne.symm (g_neA a2 g36)) gn0) g36
  have g38 := f11 _ _ (gnc (Ne.symm (g_neA a7 g37)) gn0) g37
  have g39 := f14 _ _ (gnc (Ne.symm (g_neA a10 g38)) gn0) g38
  have g40 := f17 _ _ (gnc (Ne.symm (g_neA a13 g39)) gn0) g39
  have g41 := f20 _ _ (gnc (Ne.symm (g_neA a16 g40)) gn0) g40
  have g42 := frX _ _ (gnc (g_neL g41 g26 (by decide)) gn0) g41
  have g43 := f3 _ _ (gnc (Ne.symm (g_neA hm hmany)) gn0) hmany
  have g44 := f8 _ _ (gnc (Ne.symm (g_neA a2 g43)) gn0) g43
  have g45 := f11 _ _ (gnc (Ne.symm (g_neA a7 g44)) gn0) g44
  have g46 := f14 _ _ (gnc (Ne.symm (g_neA a10 g45)) gn0) g45
  have g47 := f17 _ _ (gnc (Ne.symm (g_neA a13 g46)) gn0) g46
  have g48 := f20 _ _ (gnc (Ne.symm (g_neA a16 g47)) gn0) g47
  have g49 := frX _ _ (gnc (g_neL g48 g26 (by decide)) gn0) g48
  have g50 := f3 _ _ (gnc (Ne.symm (g_neA hm hway)) gn0) hway
  have g51 := f8 _ _ (gnc (Ne.symm (g_neA a2 g50)) gn0) g50
  have g52 := f11 _ _ (gnc (Ne.symm (g_neA a7 g51)) gn0) g51
  have g53 := f14 _ _ (gnc (Ne.symm (g_neA a10 g52)) gn0) g52
  have g54 := f17 _ _ (gnc (Ne.symm (g_neA a13 g53)) gn0) g53
  have g55 := f20 _ _ (gnc (Ne.symm (g_neA a16 g54)) gn0) g54
  have g56 := frX _ _ (gnc (g_neL g55 g26 (by decide)) gn0) g55
  have g57 := f3 _ _ (gnc (Ne.symm (g_neA hm htold)) gn0) htold
  have g58 := f8 _ _ (gnc (Ne.symm (g_neA a2 g57)) gn0) g57
  have g59 := f11 _ _ (gnc (Ne.symm (g_neA a7 g58)) gn0) g58
  have g60 := f14 _ _ (gnc (Ne.symm (g_neA a10 g59)) gn0) g59
  have g61 := f17 _ _ (gnc (Ne.symm (g_neA a13 g60)) gn0) g60
  have g62 := f20 _ _ (gnc (Ne.symm (g_neA a16 g61)) gn0) g61
  have g63 := frX _ _ (gnc (g_neL g62 g26 (by decide)) gn0) g62
  have g64 := f3 _ _ (gnc (Ne.symm (g_neA hm hoth)) gn0) hoth
  have g65 := f8 _ _ (gnc (Ne.symm (g_neA a2 g64)) gn0) g64
  have g66 := f11 _ _ (gnc (Ne.symm (g_neA a7 g65)) gn0) g65
  have g67 := f14 _ _ (gnc (Ne.symm (g_neA a10 g66)) gn0) g66
  have g68 := f17 _ _ (gnc (Ne.symm (g_neA a13 g67)) gn0) g67
  have g69 := f20 _ _ (gnc (Ne.symm (g_neA a16 g68)) gn0) g68
  have g70 := frX _ _ (gnc (g_neL g69 g26 (by decide)) gn0) g69
  have g71 := f3 _ _ (gnc (Ne.symm (g_neA hm hlst)) gn0) hlst
  have g72 := f8 _ _ (gnc (Ne.symm (g_neA a2 g71)) gn0) g71
  have g73 := f11 _ _ (gnc (Ne.symm (g_neA a7 g72)) gn0) g72
  have g74 := f14 _ _ (gnc (Ne.symm (g_neA a10 g73)) gn0) g73
  have g75 := f17 _ _ (gnc (Ne.symm (g_neA a13 g74)) gn0) g74
  have g76 := f20 _ _ (gnc (Ne.symm (g_neA a16 g75)) gn0) g75
  have g77 := frX _ _ (gnc (g_neL g76 g26 (by decide)) gn0) g76
  have g78 := f3 _ _ (gnc (Ne.symm (g_neA hm htext)) gn0) htext
  have g79 := f8 _ _ (gnc (Ne.symm (g_neA a2 g78)) gn0) g78
  have g80 := f11 _ _ (gnc (Ne.symm (g_neA a7 g79)) gn0) g79
  have g81 := f14 _ _ (gnc (Ne.symm (g_neA a10 g80)) gn0) g80
  have g82 := f17 _ _ (gnc (Ne.symm (g_neA a13 g81)) gn0) g81
  have g83 := f20 _ _ (gnc (Ne.symm (g_neA a16 g82)) gn0) g82
  have g84 := frX _ _ (gnc (g_neL g83 g26 (by decide)) gn0) g83
  refine v_callV (pc' := 79) (rt := (some .boolean)) (mcc := 0) (msc := 0) (As := []) (st := []) F (fun l => c_X7_readsText G z0 l (ln := w) ⟨_, _, _, _, _, _, g34, g35, ⟨_, g42⟩, ⟨_, g49⟩, ⟨_, g56⟩, ⟨_, g63⟩, ⟨_, g70⟩, ⟨_, g77⟩, htw, how, hto⟩ hnow g84 (fun j hj => ht j (by omega)) (by omega)) gX7_load_X7_readsText rfl hv_X7_readsText (by decide) (by decide) g34 rfl rfl rfl (Nat.le_of_ble_eq_true rfl) (by omega) (by omega) dX7_load_76 rfl (fun v86 h85 hqR => ?_)
  obtain ⟨hR9, frQ⟩ := hqR
  have g87 := frQ _ _ (gnc (g_neL hAX g35 (by decide)) (gnc (Ne.symm (g_neA g34 hAX)) (gnc (g_neL hAX g42 (by decide)) (gnc (g_neL hAX g49 (by decide)) (gnc (g_neL hAX g56 (by decide)) (gnc (g_neL hAX g63 (by decide)) (gnc (g_neL hAX g70 (by decide)) (gnc (g_neL hAX g77 (by decide)) gn0)))))))) hAX
  unfold reT at hR9
  cases hpa : pAll t w with
  | inl e =>
    rw [hpa] at hR9
    simp only at hR9
    obtain ⟨rfl, sp2, nu2, fr2, my2, R2, hM2, ho2⟩ := hR9
    obtain ⟨fl4, rl4, kd4, ok4, st4, wm4, hm4, hrows4, ⟨V4, hvals4⟩, ⟨M4, hmany4⟩, ⟨W4, hway4⟩, ⟨f4, htold4⟩, ⟨g4, hoth4⟩, ⟨ll4, hlst4⟩, -, -, -⟩ := hM2
    show gV G z0 X 0 0 h85 79 [(2, .int (nI 330)), (1, .int (nI w)), (0, .ref m)] [.int (nI 0)]
    refine v_istore_n (pc' := 80) (i := 2) (L' := [(2, .int (nI 0)), (1, .int (nI w)), (0, .ref m)]) F dX7_load_79 rfl (by decide) rfl rfl ?_
    refine v_aload_n (pc' := 81) F dX7_load_80 rfl (j := 2) rfl rfl ?_
    refine v_getf (pc' := 84) (v := .int (nI now)) F k_X7_load_7 hm4 3 (by decide) m_X7_load_f47 rfl dX7_load_81 rfl ?_
    refine v_iconst (pc' := 85) (v := nI 1) F dX7_load_84 (by decide) rfl ?_
    refine v_iadd (pc' := 86) (v := nI (now + 1)) F dX7_load_85 (nI_add now 1) rfl ?_
    refine v_bipush (pc' := 88) (v := nI 9) F dX7_load_86 (by decide) rfl ?_
    refine v_irem (pc' := 89) (v := nI ((now + 1) % 9)) F dX7_load_88 (nI_ne0 (by omega) (by omega)) (pk_rem (by omega) (by omega) (by omega)) rfl ?_
    refine v_istore_n (pc' := 90) (i := 3) (L' := [(3, .int (nI ((now + 1) % 9))), (2, .int (nI 0)), (1, .int (nI w)), (0, .ref m)]) F dX7_load_89 rfl (by decide) rfl rfl ?_
    refine v_iconst (pc' := 91) (v := nI 0) F dX7_load_90 (by decide) rfl ?_
    refine v_istore (pc' := 93) (i := 4) (L' := [(4, .int (nI 0)), (3, .int (nI ((now + 1) % 9))), (2, .int (nI 0)), (1, .int (nI w)), (0, .ref m)]) F dX7_load_91  (by decide) rfl rfl ?_
    refine v_sub (L' := [(4, .int (nI 0)), (3, .int (nI ((now + 1) % 9))), (2, .int (nI 0)), (1, .int (nI w)), (0, .ref m)]) [0, 1, 2, 3, 4] rfl ?_
    refine lpB0_X7_load (l := l) (k := 0) (j := 330) (R2 := R2) (R0 := R) F (by omega) (by omega) hnow hm4 hrows4 g87 hAR (by omega) (fun i hi => absurd hi (by omega)) (fun q h2 => rfl) (fun hY RY hrY hBY hCY frY => ?_)
    show gV G z0 X 0 0 hY 143 [(4, .int (nI 330)), (3, .int (nI ((now + 1) % 9))), (2, .int (nI 0)), (1, .int (nI w)), (0, .ref m)] []
    refine v_iload_n (pc' := 144) F dX7_load_143 rfl (j := 2) rfl rfl ?_
    refine w_if_ne (tgt := 152) (pc' := 147) F (by omega) dX7_load_144 (by decide) rfl (fun c0 => absurd c0 (by omega)) (fun _ => ?_)
    refine v_aload_n (pc' := 148) F dX7_load_147 rfl (j := 4) rfl rfl ?_
    have g88 := frY _ _ (gnc (g_neA hm4 hrows4) gn0) hm4
    refine v_getf (pc' := 151) (v := .int e.1) F k_X7_load_7 g88 21 (by decide) m_X7_load_f143 rfl dX7_load_148 rfl ?_
    have hRY : ∀ q, RY q = R q := fun q => by
      by_cases hq : q < 330 * now ∨ 330 * now + 330 ≤ q
      · rw [hCY q hq, ho2 q hq]
      · have e9 := hBY (q - 330 * now) (by omega)
        rw [hAR _ (by omega), show 330 * now + (q - 330 * now) = q by omega] at e9
        exact e9
    have fr89 : gfr [asd, rows, m, vals, many, way, told, oth, lst] h hY := (gfr.t (gfr.mono f3 (by intro q9 z9 m9; apply z9; simp only [List.mem_cons, List.not_mem_nil, or_false] at m9 ⊢; omega)) (gfr.t (gfr.mono f8 (by intro q9 z9 m9; apply z9; simp only [List.mem_cons, List.not_mem_nil, or_false] at m9 ⊢; omega)) (gfr.t (gfr.mono f11 (by intro q9 z9 m9; apply z9; simp only [List.mem_cons, List.not_mem_nil, or_false] at m9 ⊢; omega)) (gfr.t (gfr.mono f14 (by intro q9 z9 m9; apply z9; simp only [List.mem_cons, List.not_mem_nil, or_false] at m9 ⊢; omega)) (gfr.t (gfr.mono f17 (by intro q9 z9 m9; apply z9; simp only [List.mem_cons, List.not_mem_nil, or_false] at m9 ⊢; omega)) (gfr.t (gfr.mono f20 (by intro q9 z9 m9; apply z9; simp only [List.mem_cons, List.not_mem_nil, or_false] at m9 ⊢; omega)) (gfr.t (gfr.mono frX (by intro q9 z9 m9; apply z9; simp only [List.mem_cons, List.not_mem_nil, or_false] at m9 ⊢; omega)) (gfr.t (gfr.mono frQ (by intro q9 z9 m9; apply z9; simp only [List.mem_cons, List.not_mem_nil, or_false] at m9 ⊢; omega)) (gfr.mono frY (by intro q9 z9 m9; apply z9; simp only [List.mem_cons, List.not_mem_nil, or_false] at m9 ⊢; omega))))))))))
    have g90 := frY _ _ (gnc (g_neL hvals4 hrows4 (by decide)) gn0) hvals4
    have g91 := frY _ _ (gnc (g_neL hmany4 hrows4 (by decide)) gn0) hmany4
    have g92 := frY _ _ (gnc (g_neL hway4 hrows4 (by decide)) gn0) hway4
    have g93 := frY _ _ (gnc (g_neL htold4 hrows4 (by decide)) gn0) htold4
    have g94 := frY _ _ (gnc (g_neL hoth4 hrows4 (by decide)) gn0) hoth4
    have g95 := frY _ _ (gnc (g_neL hlst4 hrows4 (by decide)) gn0) hlst4
    exact v_iret F E (by omega) (by omega)  dX7_load_151 ⟨by rw [hpa]; exact ⟨rfl, _, _, _, _, _, _, RY, ⟨_, _, _, _, _, _, g88, hrY, ⟨_, g90⟩, ⟨_, g91⟩, ⟨_, g92⟩, ⟨_, g93⟩, ⟨_, g94⟩, ⟨_, g95⟩, htw, how, hto⟩, hRY⟩, fr89⟩
  | inr q =>
    rw [hpa] at hR9
    simp only at hR9
    obtain ⟨rfl, sp2, nu2, fr2, my2, R2, hM2, ho2, wf2, sl2⟩ := hR9
    obtain ⟨fl4, rl4, kd4, ok4, st4, wm4, hm4, hrows4, ⟨V4, hvals4⟩, ⟨M4, hmany4⟩, ⟨W4, hway4⟩, ⟨f4, htold4⟩, ⟨g4, hoth4⟩, ⟨ll4, hlst4⟩, -, -, -⟩ := hM2
    show gV G z0 X 0 0 h85 79 [(2, .int (nI 330)), (1, .int (nI w)), (0, .ref m)] [.int (nI 1)]
    refine v_istore_n (pc' := 80) (i := 2) (L' := [(2, .int (nI 1)), (1, .int (nI w)), (0, .ref m)]) F dX7_load_79 rfl (by decide) rfl rfl ?_
    refine v_aload_n (pc' := 81) F dX7_load_80 rfl (j := 2) rfl rfl ?_
    refine v_getf (pc' := 84) (v := .int (nI now)) F k_X7_load_7 hm4 3 (by decide) m_X7_load_f47 rfl dX7_load_81 rfl ?_
    refine v_iconst (pc' := 85) (v := nI 1) F dX7_load_84 (by decide) rfl ?_
    refine v_iadd (pc' := 86) (v := nI (now + 1)) F dX7_load_85 (nI_add now 1) rfl ?_
    refine v_bipush (pc' := 88) (v := nI 9) F dX7_load_86 (by decide) rfl ?_
    refine v_irem (pc' := 89) (v := nI ((now + 1) % 9)) F dX7_load_88 (nI_ne0 (by omega) (by omega)) (pk_rem (by omega) (by omega) (by omega)) rfl ?_
    refine v_istore_n (pc' := 90) (i := 3) (L' := [(3, .int (nI ((now + 1) % 9))), (2, .int (nI 1)), (1, .int (nI w)), (0, .ref m)]) F dX7_load_89 rfl (by decide) rfl rfl ?_
    refine v_iconst (pc' := 91) (v := nI 0) F dX7_load_90 (by decide) rfl ?_
    refine v_istore (pc' := 93) (i := 4) (L' := [(4, .int (nI 0)), (3, .int (nI ((now + 1) % 9))), (2, .int (nI 1)), (1, .int (nI w)), (0, .ref m)]) F dX7_load_91  (by decide) rfl rfl ?_
    refine v_sub (L' := [(4, .int (nI 0)), (3, .int (nI ((now + 1) % 9))), (2, .int (nI 1)), (1, .int (nI w)), (0, .ref m)]) [0, 1, 2, 3, 4] rfl ?_
    refine lpB1_X7_load (l := l) (k := 0) (j := 330) (R2 := R2) (R0 := R) F (by omega) (by omega) hnow hm4 hrows4 g87 hAR (by omega) (fun i hi => absurd hi (by omega)) (fun i hi => absurd hi (by omega)) (fun q h1 h2 => rfl) (fun hY RY hrY hNY hBY hCY frY => ?_)
    show gV G z0 X 0 0 hY 143 [(4, .int (nI 330)), (3, .int (nI ((now + 1) % 9))), (2, .int (nI 1)), (1, .int (nI w)), (0, .ref m)] []
    refine v_iload_n (pc' := 144) F dX7_load_143 rfl (j := 2) rfl rfl ?_
    refine w_if_ne (tgt := 152) (pc' := 147) F (by omega) dX7_load_144 (by decide) rfl (fun _ => ?_) (fun c0 => absurd c0 (by omega))
    refine v_aload_n (pc' := 153) F dX7_load_152 rfl (j := 4) rfl rfl ?_
    refine v_iload_n (pc' := 154) F dX7_load_153 rfl (j := 1) rfl rfl ?_
    have g96 := frY _ _ (gnc (g_neA hm4 hrows4) gn0) hm4
    refine w_putf (pc' := 157) F k_X7_load_7 tyX7_ok nmX7 g96 3 (by decide) m_X7_load_f47 rfl  rfl rfl (show 3 < 26 by decide) [.int (nI 0), .ref rows, .ref asd, .int (nI ((now + 1) % 9)), .int (nI ud), .ref vals, .ref many, .int fl4, .int rl4, .int kd4, .int ok4, .int st4, .ref way, .int wm4, .ref told, .ref oth, .ref lst, .ref text, .int (nI 0), .int (nI w), .int sp2, .int (nI 0), .int (-1), .int nu2, .int fr2, .int my2] rfl dX7_load_154 rfl (fun h97 a98 f99 => ?_)
    refine v_aload_n (pc' := 158) F dX7_load_157 rfl (j := 4) rfl rfl ?_
    refine v_aload_n (pc' := 159) F dX7_load_158 rfl (j := 4) rfl rfl ?_
    refine v_getf (pc' := 162) (v := .int (nI ud)) F k_X7_load_7 a98 4 (by decide) m_X7_load_f58 rfl dX7_load_159 rfl ?_
    refine v_bipush (pc' := 164) (v := nI 8) F dX7_load_162 (by decide) rfl ?_
    have hnx : ((now + 1) % 9) < 9 := Nat.mod_lt _ (by omega)
    have hSY : slD RY (330 * ((now + 1) % 9)) q.2 := slD.copy wf2 sl2 hNY
    have h64 := wf2.2.1
    have hOY : (∀ q, (q < 330 * ((now + 1) % 9) ∨ 330 * ((now + 1) % 9) + 330 ≤ q) → RY q = R q) := fun q9 hq9 => by
      by_cases hq : q9 < 330 * now ∨ 330 * now + 330 ≤ q9
      · rw [hCY q9 hq9 hq, ho2 q9 hq]
      · have e9 := hBY (q9 - 330 * now) (by omega)
        rw [hAR _ (by omega), show 330 * now + (q9 - 330 * now) = q9 by omega] at e9
        exact e9
    refine w_icmp_ge (tgt := 176) (pc' := 167) F (by omega) (by omega) dX7_load_164 (by decide) rfl (fun c0 => ?_) (fun c0 => ?_)
    · have em : min 8 (ud + 1) = ud := by omega
      refine v_aload_n (pc' := 177) F dX7_load_176 rfl (j := 4) rfl rfl ?_
      refine v_getf (pc' := 180) (v := .int (nI ud)) F k_X7_load_7 a98 4 (by decide) m_X7_load_f58 rfl dX7_load_177 rfl ?_
      refine w_putf (pc' := 183) F k_X7_load_7 tyX7_ok nmX7 a98 4 (by decide) m_X7_load_f58 rfl  rfl rfl (show 4 < 26 by decide) [.int (nI 0), .ref rows, .ref asd, .int (nI ((now + 1) % 9)), .int (nI ud), .ref vals, .ref many, .int fl4, .int rl4, .int kd4, .int ok4, .int st4, .ref way, .int wm4, .ref told, .ref oth, .ref lst, .ref text, .int (nI 0), .int (nI w), .int sp2, .int (nI 0), .int (-1), .int nu2, .int fr2, .int my2] rfl dX7_load_180 rfl (fun h100 a101 f102 => ?_)
      refine v_aload_n (pc' := 184) F dX7_load_183 rfl (j := 4) rfl rfl ?_
      have g103 := f99 _ _ (gnc (Ne.symm (g_neA g96 hrY)) gn0) hrY
      have g104 := f102 _ _ (gnc (Ne.symm (g_neA a98 g103)) gn0) g103
      refine v_callV (pc' := 187) (rt := (some .int)) (mcc := 0) (msc := 0) (As := []) (st := []) F (fun l => c_X7_versions G z0 l a101 g104 hnx hSY.1) gX7_load_X7_versions rfl hv_X7_versions (by decide) (by decide) a101 rfl rfl rfl (Nat.le_of_ble_eq_true rfl) (by omega) (by omega) dX7_load_184 rfl (fun v105 h100 hqv => ?_)
      obtain ⟨rfl, rfl⟩ := hqv
      have fr106 : gfr [asd, rows, m, vals, many, way, told, oth, lst] h h100 := (gfr.t (gfr.mono f3 (by intro q9 z9 m9; apply z9; simp only [List.mem_cons, List.not_mem_nil, or_false] at m9 ⊢; omega)) (gfr.t (gfr.mono f8 (by intro q9 z9 m9; apply z9; simp only [List.mem_cons, List.not_mem_nil, or_false] at m9 ⊢; omega)) (gfr.t (gfr.mono f11 (by intro q9 z9 m9; apply z9; simp only [List.mem_cons, List.not_mem_nil, or_false] at m9 ⊢; omega)) (gfr.t (gfr.mono f14 (by intro q9 z9 m9; apply z9; simp only [List.mem_cons, List.not_mem_nil, or_false] at m9 ⊢; omega)) (gfr.t (gfr.mono f17 (by intro q9 z9 m9; apply z9; simp only [List.mem_cons, List.not_mem_nil, or_false] at m9 ⊢; omega)) (gfr.t (gfr.mono f20 (by intro q9 z9 m9; apply z9; simp only [List.mem_cons, List.not_mem_nil, or_false] at m9 ⊢; omega)) (gfr.t (gfr.mono frX (by intro q9 z9 m9; apply z9; simp only [List.mem_cons, List.not_mem_nil, or_false] at m9 ⊢; omega)) (gfr.t (gfr.mono frQ (by intro q9 z9 m9; apply z9; simp only [List.mem_cons, List.not_mem_nil, or_false] at m9 ⊢; omega)) (gfr.t (gfr.mono frY (by intro q9 z9 m9; apply z9; simp only [List.mem_cons, List.not_mem_nil, or_false] at m9 ⊢; omega)) (gfr.t (gfr.mono f99 (by intro q9 z9 m9; apply z9; simp only [List.mem_cons, List.not_mem_nil, or_false] at m9 ⊢; omega)) (gfr.mono f102 (by intro q9 z9 m9; apply z9; simp only [List.mem_cons, List.not_mem_nil, or_false] at m9 ⊢; omega))))))))))))
      have g107 := frY _ _ (gnc (g_neL hvals4 hrows4 (by decide)) gn0) hvals4
      have g108 := f99 _ _ (gnc (Ne.symm (g_neA g96 g107)) gn0) g107
      have g109 := f102 _ _ (gnc (Ne.symm (g_neA a98 g108)) gn0) g108
      have g110 := frY _ _ (gnc (g_neL hmany4 hrows4 (by decide)) gn0) hmany4
      have g111 := f99 _ _ (gnc (Ne.symm (g_neA g96 g110)) gn0) g110
      have g112 := f102 _ _ (gnc (Ne.symm (g_neA a98 g111)) gn0) g111
      have g113 := frY _ _ (gnc (g_neL hway4 hrows4 (by decide)) gn0) hway4
      have g114 := f99 _ _ (gnc (Ne.symm (g_neA g96 g113)) gn0) g113
      have g115 := f102 _ _ (gnc (Ne.symm (g_neA a98 g114)) gn0) g114
      have g116 := frY _ _ (gnc (g_neL htold4 hrows4 (by decide)) gn0) htold4
      have g117 := f99 _ _ (gnc (Ne.symm (g_neA g96 g116)) gn0) g116
      have g118 := f102 _ _ (gnc (Ne.symm (g_neA a98 g117)) gn0) g117
      have g119 := frY _ _ (gnc (g_neL hoth4 hrows4 (by decide)) gn0) hoth4
      have g120 := f99 _ _ (gnc (Ne.symm (g_neA g96 g119)) gn0) g119
      have g121 := f102 _ _ (gnc (Ne.symm (g_neA a98 g120)) gn0) g120
      have g122 := frY _ _ (gnc (g_neL hlst4 hrows4 (by decide)) gn0) hlst4
      have g123 := f99 _ _ (gnc (Ne.symm (g_neA g96 g122)) gn0) g122
      have g124 := f102 _ _ (gnc (Ne.symm (g_neA a98 g123)) gn0) g123
      exact v_iret F E (by omega) (by omega)  dX7_load_187 ⟨by rw [hpa]; exact ⟨rfl, _, _, _, _, _, _, RY, by rw [em]; exact ⟨_, _, _, _, _, _, a101, g104, ⟨_, g109⟩, ⟨_, g112⟩, ⟨_, g115⟩, ⟨_, g118⟩, ⟨_, g121⟩, ⟨_, g124⟩, htw, how, hto⟩, wf2, hSY, hOY⟩, fr106⟩
    · have em : min 8 (ud + 1) = ud + 1 := by omega
      refine v_aload_n (pc' := 168) F dX7_load_167 rfl (j := 4) rfl rfl ?_
      refine v_getf (pc' := 171) (v := .int (nI ud)) F k_X7_load_7 a98 4 (by decide) m_X7_load_f58 rfl dX7_load_168 rfl ?_
      refine v_iconst (pc' := 172) (v := nI 1) F dX7_load_171 (by decide) rfl ?_
      refine v_iadd (pc' := 173) (v := nI (ud + 1)) F dX7_load_172 (nI_add ud 1) rfl ?_
      refine v_goto (tgt := 180) F dX7_load_173 (by decide) ?_
      refine w_putf (pc' := 183) F k_X7_load_7 tyX7_ok nmX7 a98 4 (by decide) m_X7_load_f58 rfl  rfl rfl (show 4 < 26 by decide) [.int (nI 0), .ref rows, .ref asd, .int (nI ((now + 1) % 9)), .int (nI (ud + 1)), .ref vals, .ref many, .int fl4, .int rl4, .int kd4, .int ok4, .int st4, .ref way, .int wm4, .ref told, .ref oth, .ref lst, .ref text, .int (nI 0), .int (nI w), .int sp2, .int (nI 0), .int (-1), .int nu2, .int fr2, .int my2] rfl dX7_load_180 rfl (fun h125 a126 f127 => ?_)
      refine v_aload_n (pc' := 184) F dX7_load_183 rfl (j := 4) rfl rfl ?_
      have g128 := f99 _ _ (gnc (Ne.symm (g_neA g96 hrY)) gn0) hrY
      have g129 := f127 _ _ (gnc (Ne.symm (g_neA a98 g128)) gn0) g128
      refine v_callV (pc' := 187) (rt := (some .int)) (mcc := 0) (msc := 0) (As := []) (st := []) F (fun l => c_X7_versions G z0 l a126 g129 hnx hSY.1) gX7_load_X7_versions rfl hv_X7_versions (by decide) (by decide) a126 rfl rfl rfl (Nat.le_of_ble_eq_true rfl) (by omega) (by omega) dX7_load_184 rfl (fun v130 h125 hqv => ?_)
      obtain ⟨rfl, rfl⟩ := hqv
      have fr131 : gfr [asd, rows, m, vals, many, way, told, oth, lst] h h125 := (gfr.t (gfr.mono f3 (by intro q9 z9 m9; apply z9; simp only [List.mem_cons, List.not_mem_nil, or_false] at m9 ⊢; omega)) (gfr.t (gfr.mono f8 (by intro q9 z9 m9; apply z9; simp only [List.mem_cons, List.not_mem_nil, or_false] at m9 ⊢; omega)) (gfr.t (gfr.mono f11 (by intro q9 z9 m9; apply z9; simp only [List.mem_cons, List.not_mem_nil, or_false] at m9 ⊢; omega)) (gfr.t (gfr.mono f14 (by intro q9 z9 m9; apply z9; simp only [List.mem_cons, List.not_mem_nil, or_false] at m9 ⊢; omega)) (gfr.t (gfr.mono f17 (by intro q9 z9 m9; apply z9; simp only [List.mem_cons, List.not_mem_nil, or_false] at m9 ⊢; omega)) (gfr.t (gfr.mono f20 (by intro q9 z9 m9; apply z9; simp only [List.mem_cons, List.not_mem_nil, or_false] at m9 ⊢; omega)) (gfr.t (gfr.mono frX (by intro q9 z9 m9; apply z9; simp only [List.mem_cons, List.not_mem_nil, or_false] at m9 ⊢; omega)) (gfr.t (gfr.mono frQ (by intro q9 z9 m9; apply z9; simp only [List.mem_cons, List.not_mem_nil, or_false] at m9 ⊢; omega)) (gfr.t (gfr.mono frY (by intro q9 z9 m9; apply z9; simp only [List.mem_cons, List.not_mem_nil, or_false] at m9 ⊢; omega)) (gfr.t (gfr.mono f99 (by intro q9 z9 m9; apply z9; simp only [List.mem_cons, List.not_mem_nil, or_false] at m9 ⊢; omega)) (gfr.mono f127 (by intro q9 z9 m9; apply z9; simp only [List.mem_cons, List.not_mem_nil, or_false] at m9 ⊢; omega))))))))))))
      have g132 := frY _ _ (gnc (g_neL hvals4 hrows4 (by decide)) gn0) hvals4
      have g133 := f99 _ _ (gnc (Ne.symm (g_neA g96 g132)) gn0) g132
      have g134 := f127 _ _ (gnc (Ne.symm (g_neA a98 g133)) gn0) g133
      have g135 := frY _ _ (gnc (g_neL hmany4 hrows4 (by decide)) gn0) hmany4
      have g136 := f99 _ _ (gnc (Ne.symm (g_neA g96 g135)) gn0) g135
      have g137 := f127 _ _ (gnc (Ne.symm (g_neA a98 g136)) gn0) g136
      have g138 := frY _ _ (gnc (g_neL hway4 hrows4 (by decide)) gn0) hway4
      have g139 := f99 _ _ (gnc (Ne.symm (g_neA g96 g138)) gn0) g138
      have g140 := f127 _ _ (gnc (Ne.symm (g_neA a98 g139)) gn0) g139
      have g141 := frY _ _ (gnc (g_neL htold4 hrows4 (by decide)) gn0) htold4
      have g142 := f99 _ _ (gnc (Ne.symm (g_neA g96 g141)) gn0) g141
      have g143 := f127 _ _ (gnc (Ne.symm (g_neA a98 g142)) gn0) g142
      have g144 := frY _ _ (gnc (g_neL hoth4 hrows4 (by decide)) gn0) hoth4
      have g145 := f99 _ _ (gnc (Ne.symm (g_neA g96 g144)) gn0) g144
      have g146 := f127 _ _ (gnc (Ne.symm (g_neA a98 g145)) gn0) g145
      have g147 := frY _ _ (gnc (g_neL hlst4 hrows4 (by decide)) gn0) hlst4
      have g148 := f99 _ _ (gnc (Ne.symm (g_neA g96 g147)) gn0) g147
      have g149 := f127 _ _ (gnc (Ne.symm (g_neA a98 g148)) gn0) g148
      exact v_iret F E (by omega) (by omega)  dX7_load_187 ⟨by rw [hpa]; exact ⟨rfl, _, _, _, _, _, _, RY, by rw [em]; exact ⟨_, _, _, _, _, _, a126, g129, ⟨_, g134⟩, ⟨_, g137⟩, ⟨_, g140⟩, ⟨_, g143⟩, ⟨_, g146⟩, ⟨_, g149⟩, htw, how, hto⟩, wf2, hSY, hOY⟩, fr131⟩
theorem k_X7_errorOffset_7 : gCl wsX7_errorOffset 7 RX7 TX7 26 := ⟨by decide +kernel, rfl⟩
theorem m_X7_errorOffset_f44 : Cond.fieldLink RX7 44 "SteadyQueuesModel" "thrown" "I" ∈ wsX7_errorOffset := by decide +kernel
theorem m_X7_errorOffset_f37 : Cond.fieldLink RX7 37 "SteadyQueuesModel" "faultAt" "I" ∈ wsX7_errorOffset := by decide +kernel
set_option maxHeartbeats 4000000 in
set_option maxRecDepth 100000 in
theorem c_X7_errorOffset (G : gG) (z0 : Nat) (l : Launch) {h : gH} {m rows asd vals many way told oth lst text now : Nat} {th und fed len spot fa fat num frm may : Int32} {R : Nat → Int32} (hMS : mS G h m rows asd vals many way told oth lst text th now und fed len spot fa fat num frm may R) : gC G z0 l yX7_errorOffset wsX7_errorOffset 0 0 [.ref m] h (fun o h' => o = some (.int fat) ∧ mS G h' m rows asd vals many way told oth lst text (nI 0) now und fed len spot fa fat num frm may R ∧ gfr [m, vals, many, way, told, oth, lst] h h') 0 0 := by
  have hMS0 := hMS
  obtain ⟨fl, rl, kd, ok, st, wm, hm, hrows, ⟨V, hvals⟩, ⟨M, hmany⟩, ⟨W, hway⟩, ⟨f, htold⟩, ⟨g, hoth⟩, ⟨ll, hlst⟩, htw, how, hto⟩ := hMS
  refine gC_of (cc := cX7_errorOffset) (nL := 1) (ret := (some .int)) (by decide) rfl (Nat.le_of_ble_eq_true rfl) ?_
  intro X F E _
  change gF G z0 X cX7_errorOffset 1 RX7 wsX7_errorOffset (some .int) "errorOffset" 0 0 _ _ at F
  show gV G z0 X 0 0 h 0 [(0, .ref m)] []
  refine v_aload_n (pc' := 1) F dX7_errorOffset_0 rfl (j := 0) rfl rfl ?_
  refine v_iconst (pc' := 2) (v := nI 0) F dX7_errorOffset_1 (by decide) rfl ?_
  refine w_putf (pc' := 5) F k_X7_errorOffset_7 tyX7_ok nmX7 hm 0 (by decide) m_X7_errorOffset_f44 rfl  rfl rfl (show 0 < 26 by decide) [.int (nI 0), .ref rows, .ref asd, .int (nI now), .int und, .ref vals, .ref many, .int fl, .int rl, .int kd, .int ok, .int st, .ref way, .int wm, .ref told, .ref oth, .ref lst, .ref text, .int fed, .int len, .int spot, .int fa, .int fat, .int num, .int frm, .int may] rfl dX7_errorOffset_2 rfl (fun h1 a2 f3 => ?_)
  refine v_aload_n (pc' := 6) F dX7_errorOffset_5 rfl (j := 0) rfl rfl ?_
  refine v_getf (pc' := 9) (v := .int fat) F k_X7_errorOffset_7 a2 22 (by decide) m_X7_errorOffset_f37 rfl dX7_errorOffset_6 rfl ?_
  have fr4 : gfr [m, vals, many, way, told, oth, lst] h h1 := (gfr.mono f3 (by intro q9 z9 m9; apply z9; simp only [List.mem_cons, List.not_mem_nil, or_false] at m9 ⊢; omega))
  have g5 := f3 _ _ (gnc (Ne.symm (g_neA hm hrows)) gn0) hrows
  have g6 := f3 _ _ (gnc (Ne.symm (g_neA hm hvals)) gn0) hvals
  have g7 := f3 _ _ (gnc (Ne.symm (g_neA hm hmany)) gn0) hmany
  have g8 := f3 _ _ (gnc (Ne.symm (g_neA hm hway)) gn0) hway
  have g9 := f3 _ _ (gnc (Ne.symm (g_neA hm htold)) gn0) htold
  have g10 := f3 _ _ (gnc (Ne.symm (g_neA hm hoth)) gn0) hoth
  have g11 := f3 _ _ (gnc (Ne.symm (g_neA hm hlst)) gn0) hlst
  exact v_iret F E (by omega) (by omega)  dX7_errorOffset_9 ⟨rfl, ⟨_, _, _, _, _, _, a2, g5, ⟨_, g6⟩, ⟨_, g7⟩, ⟨_, g8⟩, ⟨_, g9⟩, ⟨_, g10⟩, ⟨_, g11⟩, htw, how, hto⟩, fr4⟩

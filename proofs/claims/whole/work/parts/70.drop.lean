/-! THE REFERENCE: a version dropped -/
def skp (j u : Nat) : Nat := if u < j then u else u + 1
def dDrop (D : Dt) (j : Nat) : Dt := (D.1 - 1, D.2.1, D.2.2.1 + 1, fun u => if D.2.2.2.1 (skp j u) > j then D.2.2.2.1 (skp j u) - 1 else D.2.2.2.1 (skp j u), fun u => D.2.2.2.2 (skp j u))
theorem chD_no {D : Dt} {j i : Nat} (h : chD D j = 0) (hi : i < D.1) : paD D i ≠ some j := fun e => by
  have hg : ∀ n, i < n → 1 ≤ gsum (fun i => if paD D i = some j then 1 else 0) n := by
    intro n
    induction n with
    | zero => exact fun z => absurd z (Nat.not_lt_zero _)
    | succ n ih =>
      intro hn
      rw [gsum_s]
      by_cases en : i = n
      · subst en
        rw [if_pos e]
        omega
      · have := ih (by omega)
        omega
  have := hg D.1 hi
  unfold chD at h
  omega
theorem wfD.drop {D : Dt} (w : wfD D) {j : Nat} (h0 : 0 < j) (hj : j < D.1) (hc : chD D j = 0) : wfD (dDrop D j) := by
  obtain ⟨w1, w2, w3, w4, w5, w6⟩ := w
  refine ⟨by show 1 ≤ D.1 - 1; omega, by show D.1 - 1 ≤ 64; omega, w3, w4, ?_, fun i h1 h2 => ?_⟩
  · show D.2.2.2.2 (skp j 0) = []
    unfold skp
    rw [if_pos h0]
    exact w5
  · change i < D.1 - 1 at h2
    have hs : 0 < skp j i ∧ skp j i < D.1 ∧ (i < j → skp j i = i) ∧ (j ≤ i → skp j i = i + 1) := by
      unfold skp
      split
      · exact ⟨h1, by omega, fun _ => rfl, fun z => by omega⟩
      · exact ⟨by omega, by omega, fun z => by omega, fun _ => rfl⟩
    obtain ⟨a, ⟨o, e⟩, b⟩ := w6 (skp j i) hs.1 hs.2.1
    have hp : D.2.2.2.1 (skp j i) ≠ j := fun z => chD_no hc hs.2.1 (by unfold paD asD; rw [if_neg (by omega), z]; rfl)
    have hk : skp j (if D.2.2.2.1 (skp j i) > j then D.2.2.2.1 (skp j i) - 1 else D.2.2.2.1 (skp j i)) = D.2.2.2.1 (skp j i) := by
      generalize D.2.2.2.1 (skp j i) = p at *
      by_cases hpj : p > j
      · rw [if_pos hpj]
        unfold skp
        rw [if_neg (by omega)]
        omega
      · rw [if_neg hpj]
        unfold skp
        rw [if_pos (by omega)]
    refine ⟨?_, ⟨o, ?_⟩, b⟩
    · show (if D.2.2.2.1 (skp j i) > j then D.2.2.2.1 (skp j i) - 1 else D.2.2.2.1 (skp j i)) < i
      rcases Nat.lt_or_ge i j with z | z
      · have := hs.2.2.1 z
        split <;> omega
      · have := hs.2.2.2 z
        split <;> omega
    · show D.2.2.2.2 (skp j i) = o :: D.2.2.2.2 (skp j (if D.2.2.2.1 (skp j i) > j then D.2.2.2.1 (skp j i) - 1 else D.2.2.2.1 (skp j i)))
      rw [hk]
      exact e
def upP (j : Nat) (x : Int32) : Int32 := if x ≤ nI j then x else x - nI 1
theorem slD.drop {R R2 : Nat → Int32} {b j : Nat} {D : Dt} (w9 : wfD D) (h : slD R b D) (h0 : 0 < j) (hj : j < D.1) (g0 : R2 b = nI (D.1 - 1)) (g1 : R2 (b + 1) = R (b + 1)) (g2 : R2 (b + 2) = nI (D.2.2.1 + 1)) (e0 : ∀ u, u < D.1 - 1 → R2 (b + (10 + 5 * u + 0)) = upP j (R (b + (10 + 5 * skp j u + 0)))) (e1 : ∀ u w, u < D.1 - 1 → 0 < w → w < 5 → R2 (b + (10 + 5 * u + w)) = R (b + (10 + 5 * skp j u + w))) : slD R2 b (dDrop D j) := by
  obtain ⟨a1, a2, a3, a4⟩ := h
  have hn := w9.2.1
  refine ⟨g0, by rw [g1]; exact a2, g2, fun u hu => ?_⟩
  change u < D.1 - 1 at hu
  have hsk : skp j u < D.1 := by unfold skp; split <;> omega
  obtain ⟨c0, c1, c2, c3, c4⟩ := a4 (skp j u) hsk
  refine ⟨?_, by rw [e1 u 1 hu (by omega) (by omega)]; exact c1, by rw [e1 u 2 hu (by omega) (by omega)]; exact c2, by rw [e1 u 3 hu (by omega) (by omega)]; exact c3, by rw [e1 u 4 hu (by omega) (by omega)]; exact c4⟩
  rw [e0 u hu, c0]
  unfold upP parI
  by_cases hu0 : u = 0
  · subst hu0
    have es : skp j 0 = 0 := by unfold skp; rw [if_pos h0]
    rw [es, if_pos rfl, if_pos rfl, if_pos]
    exact Int32.le_trans (show (-1 : Int32) ≤ nI 0 by decide) (nI_le (Nat.zero_le j) (by omega))
  · have es : ¬ skp j u = 0 := by unfold skp; split <;> omega
    have hp := (w9.2.2.2.2.2 (skp j u) (by omega) hsk).1
    rw [if_neg es, if_neg hu0]
    show _ = nI (if D.2.2.2.1 (skp j u) > j then D.2.2.2.1 (skp j u) - 1 else D.2.2.2.1 (skp j u))
    by_cases hpj : D.2.2.2.1 (skp j u) > j
    · rw [if_pos hpj, if_neg (fun z => absurd (nI_lt hpj (by omega)) (Int32.not_lt.mpr z)), g_subn (by omega) rfl]
    · rw [if_neg hpj, if_pos (nI_le (by omega) (by omega))]
set_option maxHeartbeats 4000000 in
set_option maxRecDepth 100000 in
theorem lpS_X7_drop {G : gG} {z0 : Nat} {X : gX} {l : Launch} {mc ms cells slots r v j N : Nat} {h : gH} {m rows asd now vals many way told oth lst text : Nat} {th und fl rl kd ok st wm fed len spot fa fat num frm may : Int32} {R R0 : Nat → Int32} (F : gF G z0 X cX7_drop 4 RX7 wsX7_drop (some .int) "drop" 3 66 mc ms) (hcc : cells ≤ mc) (hss : slots ≤ ms) (hm : h m = some (.inr (7, [.int th, .ref rows, .ref asd, .int (nI now), .int und, .ref vals, .ref many, .int fl, .int rl, .int kd, .int ok, .int st, .ref way, .int wm, .ref told, .ref oth, .ref lst, .ref text, .int fed, .int len, .int spot, .int fa, .int fat, .int num, .int frm, .int may]))) (hrows : h rows = some (oI G 2970 R)) (hnow : now < 9) (hN : N ≤ 64) (hRn : R0 (330 * now) = nI N) (hjv : j ≤ v) (hvr : v + 1 + r = N) (hA : ∀ q, 330 * now + 10 + 5 * j ≤ q → q < 330 * now + 10 + 5 * v → R q = R0 (q + 5)) (hB : ∀ q, (q < 330 * now + 10 + 5 * j ∨ 330 * now + 10 + 5 * v ≤ q) → R q = R0 q) (K : ∀ (h' : gH) (v' : Nat) (R' : Nat → Int32), h' m = some (.inr (7, [.int th, .ref rows, .ref asd, .int (nI now), .int und, .ref vals, .ref many, .int fl, .int rl, .int kd, .int ok, .int st, .ref way, .int wm, .ref told, .ref oth, .ref lst, .ref text, .int fed, .int len, .int spot, .int fa, .int fat, .int num, .int frm, .int may])) → h' rows = some (oI G 2970 R') → v' + 1 = N → (∀ q, 330 * now + 10 + 5 * j ≤ q → q < 330 * now + 10 + 5 * v' → R' q = R0 (q + 5)) → (∀ q, (q < 330 * now + 10 + 5 * j ∨ 330 * now + 10 + 5 * v' ≤ q) → R' q = R0 q) → gfr [rows] h h' → gV G z0 X cells slots h' 94 [(2, .int (nI v')), (1, .int (nI j)), (0, .ref m)] []) : gV G z0 X cells slots h 51 [(2, .int (nI v)), (1, .int (nI j)), (0, .ref m)] [] := by
  induction r generalizing v R h with
  | zero =>
    have hRb : R (330 * now) = nI N := by rw [hB _ (by omega)]; exact hRn
    refine v_iload_n (pc' := 52) F dX7_drop_51 rfl (j := 0) rfl rfl ?_
    refine v_iconst (pc' := 53) (v := nI 1) F dX7_drop_52 (by decide) rfl ?_
    refine v_iadd (pc' := 54) (v := nI (v + 1)) F dX7_drop_53 (nI_add v 1) rfl ?_
    refine v_aload_n (pc' := 55) F dX7_drop_54 rfl (j := 2) rfl rfl ?_
    refine v_callV (pc' := 58) (rt := (some .int)) (mcc := 0) (msc := 0) (As := []) (st := [.int (nI (v + 1))]) F (fun l => c_X7_versions G z0 l hm hrows hnow hRb) gX7_drop_X7_versions rfl hv_X7_versions (by decide) (by decide) hm rfl rfl rfl (Nat.le_of_ble_eq_true rfl) (by omega) (by omega) dX7_drop_55 rfl (fun v1 h hqv => ?_)
    obtain ⟨rfl, rfl⟩ := hqv
    refine w_icmp_ge (tgt := 94) (pc' := 61) F (by omega) (by omega) dX7_drop_58 (by decide) rfl (fun _ => ?_) (fun c0 => absurd c0 (by omega))
    exact K h v R hm hrows (by omega) hA hB gfr.rf
  | succ r ih =>
    have hRb : R (330 * now) = nI N := by rw [hB _ (by omega)]; exact hRn
    refine v_iload_n (pc' := 52) F dX7_drop_51 rfl (j := 0) rfl rfl ?_
    refine v_iconst (pc' := 53) (v := nI 1) F dX7_drop_52 (by decide) rfl ?_
    refine v_iadd (pc' := 54) (v := nI (v + 1)) F dX7_drop_53 (nI_add v 1) rfl ?_
    refine v_aload_n (pc' := 55) F dX7_drop_54 rfl (j := 2) rfl rfl ?_
    refine v_callV (pc' := 58) (rt := (some .int)) (mcc := 0) (msc := 0) (As := []) (st := [.int (nI (v + 1))]) F (fun l => c_X7_versions G z0 l hm hrows hnow hRb) gX7_drop_X7_versions rfl hv_X7_versions (by decide) (by decide) hm rfl rfl rfl (Nat.le_of_ble_eq_true rfl) (by omega) (by omega) dX7_drop_55 rfl (fun v1 h hqv => ?_)
    obtain ⟨rfl, rfl⟩ := hqv
    refine w_icmp_ge (tgt := 94) (pc' := 61) F (by omega) (by omega) dX7_drop_58 (by decide) rfl (fun c0 => absurd c0 (by omega)) (fun _ => ?_)
    refine v_iconst (pc' := 62) (v := nI 0) F dX7_drop_61 (by decide) rfl ?_
    refine v_istore_n (pc' := 63) (i := 3) (L' := [(3, .int (nI 0)), (2, .int (nI v)), (1, .int (nI j)), (0, .ref m)]) F dX7_drop_62 rfl (by decide) rfl rfl ?_
    refine v_iload_n (pc' := 64) F dX7_drop_63 rfl (j := 0) rfl rfl ?_
    refine v_iconst (pc' := 65) (v := nI 5) F dX7_drop_64 (by decide) rfl ?_
    refine w_icmp_ge (tgt := 88) (pc' := 68) F (by omega) (by omega) dX7_drop_65 (by decide) rfl (fun c0 => absurd c0 (by omega)) (fun _ => ?_)
    refine v_aload_n (pc' := 69) F dX7_drop_68 rfl (j := 3) rfl rfl ?_
    refine v_iload_n (pc' := 70) F dX7_drop_69 rfl (j := 1) rfl rfl ?_
    refine v_iload_n (pc' := 71) F dX7_drop_70 rfl (j := 0) rfl rfl ?_
    refine v_aload_n (pc' := 72) F dX7_drop_71 rfl (j := 3) rfl rfl ?_
    refine v_iload_n (pc' := 73) F dX7_drop_72 rfl (j := 1) rfl rfl ?_
    refine v_iconst (pc' := 74) (v := nI 1) F dX7_drop_73 (by decide) rfl ?_
    refine v_iadd (pc' := 75) (v := nI (v + 1)) F dX7_drop_74 (nI_add v 1) rfl ?_
    refine v_iload_n (pc' := 76) F dX7_drop_75 rfl (j := 0) rfl rfl ?_
    refine v_callV (pc' := 79) (rt := (some .int)) (mcc := 0) (msc := 0) (As := [.int (nI (v + 1)), .int (nI 0)]) (st := [.int (nI 0), .int (nI v), .ref m]) F (fun l => c_X7_of G z0 l (v := v + 1) (w := 0) hm hrows hnow (by omega) (by omega)) gX7_drop_X7_of rfl hv_X7_of (by decide) (by decide) hm rfl rfl rfl (Nat.le_of_ble_eq_true rfl) (by omega) (by omega) dX7_drop_76 rfl (fun v2 h hqo => ?_)
    obtain ⟨rfl, rfl⟩ := hqo
    refine v_callV (pc' := 82) (rt := none) (mcc := 0) (msc := 0) (As := [.int (nI v), .int (nI 0), .int (R (330 * now + (10 + 5 * (v + 1) + 0)))]) (st := []) F (fun l => c_X7_puts G z0 l (v := v) (w := 0) (R (330 * now + (10 + 5 * (v + 1) + 0))) hm hrows hnow (by omega) (by omega)) gX7_drop_X7_puts rfl hv_X7_puts (by decide) (by decide) hm rfl rfl rfl (Nat.le_of_ble_eq_true rfl) (by omega) (by omega) dX7_drop_79 rfl (fun v4 h3 hqw => ?_)
    obtain ⟨rfl, rR1, frR1⟩ := hqw
    have eR1 : ∀ q, q ≠ 330 * now + (10 + 5 * v + 0) → upd R (330 * now + (10 + 5 * v + 0)) (R (330 * now + (10 + 5 * (v + 1) + 0))) q = R q := fun q hq => upd_ne hq
    have fR1 : upd R (330 * now + (10 + 5 * v + 0)) (R (330 * now + (10 + 5 * (v + 1) + 0))) (330 * now + (10 + 5 * v + 0)) = (R (330 * now + (10 + 5 * (v + 1) + 0))) := upd_eq _ _ _
    generalize upd R (330 * now + (10 + 5 * v + 0)) (R (330 * now + (10 + 5 * (v + 1) + 0))) = R1 at rR1 eR1 fR1
    refine v_iinc (pc' := 85) (j := 0) (x := nI 0) (v := nI 1) (L' := [(3, .int (nI 1)), (2, .int (nI v)), (1, .int (nI j)), (0, .ref m)]) F dX7_drop_82 rfl (g_eqn (nI_add 0 1) (by omega)) (by decide) rfl rfl ?_
    refine v_goto (tgt := 63) F dX7_drop_85 (by decide) ?_
    refine v_iload_n (pc' := 64) F dX7_drop_63 rfl (j := 0) rfl rfl ?_
    refine v_iconst (pc' := 65) (v := nI 5) F dX7_drop_64 (by decide) rfl ?_
    refine w_icmp_ge (tgt := 88) (pc' := 68) F (by omega) (by omega) dX7_drop_65 (by decide) rfl (fun c0 => absurd c0 (by omega)) (fun _ => ?_)
    refine v_aload_n (pc' := 69) F dX7_drop_68 rfl (j := 3) rfl rfl ?_
    refine v_iload_n (pc' := 70) F dX7_drop_69 rfl (j := 1) rfl rfl ?_
    refine v_iload_n (pc' := 71) F dX7_drop_70 rfl (j := 0) rfl rfl ?_
    refine v_aload_n (pc' := 72) F dX7_drop_71 rfl (j := 3) rfl rfl ?_
    refine v_iload_n (pc' := 73) F dX7_drop_72 rfl (j := 1) rfl rfl ?_
    refine v_iconst (pc' := 74) (v := nI 1) F dX7_drop_73 (by decide) rfl ?_
    refine v_iadd (pc' := 75) (v := nI (v + 1)) F dX7_drop_74 (nI_add v 1) rfl ?_
    refine v_iload_n (pc' := 76) F dX7_drop_75 rfl (j := 0) rfl rfl ?_
    have g5 := frR1 _ _ (gnc (g_neA hm hrows) gn0) hm
    refine v_callV (pc' := 79) (rt := (some .int)) (mcc := 0) (msc := 0) (As := [.int (nI (v + 1)), .int (nI 1)]) (st := [.int (nI 1), .int (nI v), .ref m]) F (fun l => c_X7_of G z0 l (v := v + 1) (w := 1) g5 rR1 hnow (by omega) (by omega)) gX7_drop_X7_of rfl hv_X7_of (by decide) (by decide) g5 rfl rfl rfl (Nat.le_of_ble_eq_true rfl) (by omega) (by omega) dX7_drop_76 rfl (fun v6 h3 hqo => ?_)
    obtain ⟨rfl, rfl⟩ := hqo
    refine v_callV (pc' := 82) (rt := none) (mcc := 0) (msc := 0) (As := [.int (nI v), .int (nI 1), .int (R1 (330 * now + (10 + 5 * (v + 1) + 1)))]) (st := []) F (fun l => c_X7_puts G z0 l (v := v) (w := 1) (R1 (330 * now + (10 + 5 * (v + 1) + 1))) g5 rR1 hnow (by omega) (by omega)) gX7_drop_X7_puts rfl hv_X7_puts (by decide) (by decide) g5 rfl rfl rfl (Nat.le_of_ble_eq_true rfl) (by omega) (by omega) dX7_drop_79 rfl (fun v8 h7 hqw => ?_)
    obtain ⟨rfl, rR2, frR2⟩ := hqw
    have eR2 : ∀ q, q ≠ 330 * now + (10 + 5 * v + 1) → upd R1 (330 * now + (10 + 5 * v + 1)) (R1 (330 * now + (10 + 5 * (v + 1) + 1))) q = R1 q := fun q hq => upd_ne hq
    have fR2 : upd R1 (330 * now + (10 + 5 * v + 1)) (R1 (330 * now + (10 + 5 * (v + 1) + 1))) (330 * now + (10 + 5 * v + 1)) = (R1 (330 * now + (10 + 5 * (v + 1) + 1))) := upd_eq _ _ _
    generalize upd R1 (330 * now + (10 + 5 * v + 1)) (R1 (330 * now + (10 + 5 * (v + 1) + 1))) = R2 at rR2 eR2 fR2
    refine v_iinc (pc' := 85) (j := 0) (x := nI 1) (v := nI 2) (L' := [(3, .int (nI 2)), (2, .int (nI v)), (1, .int (nI j)), (0, .ref m)]) F dX7_drop_82 rfl (g_eqn (nI_add 1 1) (by omega)) (by decide) rfl rfl ?_
    refine v_goto (tgt := 63) F dX7_drop_85 (by decide) ?_
    refine v_iload_n (pc' := 64) F dX7_drop_63 rfl (j := 0) rfl rfl ?_
    refine v_iconst (pc' := 65) (v := nI 5) F dX7_drop_64 (by decide) rfl ?_
    refine w_icmp_ge (tgt := 88) (pc' := 68) F (by omega) (by omega) dX7_drop_65 (by decide) rfl (fun c0 => absurd c0 (by omega)) (fun _ => ?_)
    refine v_aload_n (pc' := 69) F dX7_drop_68 rfl (j := 3) rfl rfl ?_
    refine v_iload_n (pc' := 70) F dX7_drop_69 rfl (j := 1) rfl rfl ?_
    refine v_iload_n (pc' := 71) F dX7_drop_70 rfl (j := 0) rfl rfl ?_
    refine v_aload_n (pc' := 72) F dX7_drop_71 rfl (j := 3) rfl rfl ?_
    refine v_iload_n (pc' := 73) F dX7_drop_72 rfl (j := 1) rfl rfl ?_
    refine v_iconst (pc' := 74) (v := nI 1) F dX7_drop_73 (by decide) rfl ?_
    refine v_iadd (pc' := 75) (v := nI (v + 1)) F dX7_drop_74 (nI_add v 1) rfl ?_
    refine v_iload_n (pc' := 76) F dX7_drop_75 rfl (j := 0) rfl rfl ?_
    have g9 := frR2 _ _ (gnc (g_neA g5 rR1) gn0) g5
    refine v_callV (pc' := 79) (rt := (some .int)) (mcc := 0) (msc := 0) (As := [.int (nI (v + 1)), .int (nI 2)]) (st := [.int (nI 2), .int (nI v), .ref m]) F (fun l => c_X7_of G z0 l (v := v + 1) (w := 2) g9 rR2 hnow (by omega) (by omega)) gX7_drop_X7_of rfl hv_X7_of (by decide) (by decide) g9 rfl rfl rfl (Nat.le_of_ble_eq_true rfl) (by omega) (by omega) dX7_drop_76 rfl (fun v10 h7 hqo => ?_)
    obtain ⟨rfl, rfl⟩ := hqo
    refine v_callV (pc' := 82) (rt := none) (mcc := 0) (msc := 0) (As := [.int (nI v), .int (nI 2), .int (R2 (330 * now + (10 + 5 * (v + 1) + 2)))]) (st := []) F (fun l => c_X7_puts G z0 l (v := v) (w := 2) (R2 (330 * now + (10 + 5 * (v + 1) + 2))) g9 rR2 hnow (by omega) (by omega)) gX7_drop_X7_puts rfl hv_X7_puts (by decide) (by decide) g9 rfl rfl rfl (Nat.le_of_ble_eq_true rfl) (by omega) (by omega) dX7_drop_79 rfl (fun v12 h11 hqw => ?_)
    obtain ⟨rfl, rR3, frR3⟩ := hqw
    have eR3 : ∀ q, q ≠ 330 * now + (10 + 5 * v + 2) → upd R2 (330 * now + (10 + 5 * v + 2)) (R2 (330 * now + (10 + 5 * (v + 1) + 2))) q = R2 q := fun q hq => upd_ne hq
    have fR3 : upd R2 (330 * now + (10 + 5 * v + 2)) (R2 (330 * now + (10 + 5 * (v + 1) + 2))) (330 * now + (10 + 5 * v + 2)) = (R2 (330 * now + (10 + 5 * (v + 1) + 2))) := upd_eq _ _ _
    generalize upd R2 (330 * now + (10 + 5 * v + 2)) (R2 (330 * now + (10 + 5 * (v + 1) + 2))) = R3 at rR3 eR3 fR3
    refine v_iinc (pc' := 85) (j := 0) (x := nI 2) (v := nI 3) (L' := [(3, .int (nI 3)), (2, .int (nI v)), (1, .int (nI j)), (0, .ref m)]) F dX7_drop_82 rfl (g_eqn (nI_add 2 1) (by omega)) (by decide) rfl rfl ?_
    refine v_goto (tgt := 63) F dX7_drop_85 (by decide) ?_
    refine v_iload_n (pc' := 64) F dX7_drop_63 rfl (j := 0) rfl rfl ?_
    refine v_iconst (pc' := 65) (v := nI 5) F dX7_drop_64 (by decide) rfl ?_
    refine w_icmp_ge (tgt := 88) (pc' := 68) F (by omega) (by omega) dX7_drop_65 (by decide) rfl (fun c0 => absurd c0 (by omega)) (fun _ => ?_)
    refine v_aload_n (pc' := 69) F dX7_drop_68 rfl (j := 3) rfl rfl ?_
    refine v_iload_n (pc' := 70) F dX7_drop_69 rfl (j := 1) rfl rfl ?_
    refine v_iload_n (pc' := 71) F dX7_drop_70 rfl (j := 0) rfl rfl ?_
    refine v_aload_n (pc' := 72) F dX7_drop_71 rfl (j := 3) rfl rfl ?_
    refine v_iload_n (pc' := 73) F dX7_drop_72 rfl (j := 1) rfl rfl ?_
    refine v_iconst (pc' := 74) (v := nI 1) F dX7_drop_73 (by decide) rfl ?_
    refine v_iadd (pc' := 75) (v := nI (v + 1)) F dX7_drop_74 (nI_add v 1) rfl ?_
    refine v_iload_n (pc' := 76) F dX7_drop_75 rfl (j := 0) rfl rfl ?_
    have g13 := frR3 _ _ (gnc (g_neA g9 rR2) gn0) g9
    refine v_callV (pc' := 79) (rt := (some .int)) (mcc := 0) (msc := 0) (As := [.int (nI (v + 1)), .int (nI 3)]) (st := [.int (nI 3), .int (nI v), .ref m]) F (fun l => c_X7_of G z0 l (v := v + 1) (w := 3) g13 rR3 hnow (by omega) (by omega)) gX7_drop_X7_of rfl hv_X7_of (by decide) (by decide) g13 rfl rfl rfl (Nat.le_of_ble_eq_true rfl) (by omega) (by omega) dX7_drop_76 rfl (fun v14 h11 hqo => ?_)
    obtain ⟨rfl, rfl⟩ := hqo
    refine v_callV (pc' := 82) (rt := none) (mcc := 0) (msc := 0) (As := [.int (nI v), .int (nI 3), .int (R3 (330 * now + (10 + 5 * (v + 1) + 3)))]) (st := []) F (fun l => c_X7_puts G z0 l (v := v) (w := 3) (R3 (330 * now + (10 + 5 * (v + 1) + 3))) g13 rR3 hnow (by omega) (by omega)) gX7_drop_X7_puts rfl hv_X7_puts (by decide) (by decide) g13 rfl rfl rfl (Nat.le_of_ble_eq_true rfl) (by omega) (by omega) dX7_drop_79 rfl (fun v16 h15 hqw => ?_)
    obtain ⟨rfl, rR4, frR4⟩ := hqw
    have eR4 : ∀ q, q ≠ 330 * now + (10 + 5 * v + 3) → upd R3 (330 * now + (10 + 5 * v + 3)) (R3 (330 * now + (10 + 5 * (v + 1) + 3))) q = R3 q := fun q hq => upd_ne hq
    have fR4 : upd R3 (330 * now + (10 + 5 * v + 3)) (R3 (330 * now + (10 + 5 * (v + 1) + 3))) (330 * now + (10 + 5 * v + 3)) = (R3 (330 * now + (10 + 5 * (v + 1) + 3))) := upd_eq _ _ _
    generalize upd R3 (330 * now + (10 + 5 * v + 3)) (R3 (330 * now + (10 + 5 * (v + 1) + 3))) = R4 at rR4 eR4 fR4
    refine v_iinc (pc' := 85) (j := 0) (x := nI 3) (v := nI 4) (L' := [(3, .int (nI 4)), (2, .int (nI v)), (1, .int (nI j)), (0, .ref m)]) F dX7_drop_82 rfl (g_eqn (nI_add 3 1) (by omega)) (by decide) rfl rfl ?_
    refine v_goto (tgt := 63) F dX7_drop_85 (by decide) ?_
    refine v_iload_n (pc' := 64) F dX7_drop_63 rfl (j := 0) rfl rfl ?_
    refine v_iconst (pc' := 65) (v := nI 5) F dX7_drop_64 (by decide) rfl ?_
    refine w_icmp_ge (tgt := 88) (pc' := 68) F (by omega) (by omega) dX7_drop_65 (by decide) rfl (fun c0 => absurd c0 (by omega)) (fun _ => ?_)
    refine v_aload_n (pc' := 69) F dX7_drop_68 rfl (j := 3) rfl rfl ?_
    refine v_iload_n (pc' := 70) F dX7_drop_69 rfl (j := 1) rfl rfl ?_
    refine v_iload_n (pc' := 71) F dX7_drop_70 rfl (j := 0) rfl rfl ?_
    refine v_aload_n (pc' := 72) F dX7_drop_71 rfl (j := 3) rfl rfl ?_
    refine v_iload_n (pc' := 73) F dX7_drop_72 rfl (j := 1) rfl rfl ?_
    refine v_iconst (pc' := 74) (v := nI 1) F dX7_drop_73 (by decide) rfl ?_
    refine v_iadd (pc' := 75) (v := nI (v + 1)) F dX7_drop_74 (nI_add v 1) rfl ?_
    refine v_iload_n (pc' := 76) F dX7_drop_75 rfl (j := 0) rfl rfl ?_
    have g17 := frR4 _ _ (gnc (g_neA g13 rR3) gn0) g13
    refine v_callV (pc' := 79) (rt := (some .int)) (mcc := 0) (msc := 0) (As := [.int (nI (v + 1)), .int (nI 4)]) (st := [.int (nI 4), .int (nI v), .ref m]) F (fun l => c_X7_of G z0 l (v := v + 1) (w := 4) g17 rR4 hnow (by omega) (by omega)) gX7_drop_X7_of rfl hv_X7_of (by decide) (by decide) g17 rfl rfl rfl (Nat.le_of_ble_eq_true rfl) (by omega) (by omega) dX7_drop_76 rfl (fun v18 h15 hqo => ?_)
    obtain ⟨rfl, rfl⟩ := hqo
    refine v_callV (pc' := 82) (rt := none) (mcc := 0) (msc := 0) (As := [.int (nI v), .int (nI 4), .int (R4 (330 * now + (10 + 5 * (v + 1) + 4)))]) (st := []) F (fun l => c_X7_puts G z0 l (v := v) (w := 4) (R4 (330 * now + (10 + 5 * (v + 1) + 4))) g17 rR4 hnow (by omega) (by omega)) gX7_drop_X7_puts rfl hv_X7_puts (by decide) (by decide) g17 rfl rfl rfl (Nat.le_of_ble_eq_true rfl) (by omega) (by omega) dX7_drop_79 rfl (fun v20 h19 hqw => ?_)
    obtain ⟨rfl, rR5, frR5⟩ := hqw
    have eR5 : ∀ q, q ≠ 330 * now + (10 + 5 * v + 4) → upd R4 (330 * now + (10 + 5 * v + 4)) (R4 (330 * now + (10 + 5 * (v + 1) + 4))) q = R4 q := fun q hq => upd_ne hq
    have fR5 : upd R4 (330 * now + (10 + 5 * v + 4)) (R4 (330 * now + (10 + 5 * (v + 1) + 4))) (330 * now + (10 + 5 * v + 4)) = (R4 (330 * now + (10 + 5 * (v + 1) + 4))) := upd_eq _ _ _
    generalize upd R4 (330 * now + (10 + 5 * v + 4)) (R4 (330 * now + (10 + 5 * (v + 1) + 4))) = R5 at rR5 eR5 fR5
    refine v_iinc (pc' := 85) (j := 0) (x := nI 4) (v := nI 5) (L' := [(3, .int (nI 5)), (2, .int (nI v)), (1, .int (nI j)), (0, .ref m)]) F dX7_drop_82 rfl (g_eqn (nI_add 4 1) (by omega)) (by decide) rfl rfl ?_
    refine v_goto (tgt := 63) F dX7_drop_85 (by decide) ?_
    refine v_iload_n (pc' := 64) F dX7_drop_63 rfl (j := 0) rfl rfl ?_
    refine v_iconst (pc' := 65) (v := nI 5) F dX7_drop_64 (by decide) rfl ?_
    refine w_icmp_ge (tgt := 88) (pc' := 68) F (by omega) (by omega) dX7_drop_65 (by decide) rfl (fun _ => ?_) (fun c0 => absurd c0 (by omega))
    refine v_iinc (pc' := 91) (j := 1) (x := nI v) (v := nI (v + 1)) (L' := [(2, .int (nI (v + 1))), (3, .int (nI 5)), (1, .int (nI j)), (0, .ref m)]) F dX7_drop_88 rfl (nI_add v 1) (by decide) rfl rfl ?_
    refine v_goto (tgt := 51) F dX7_drop_91 (by decide) ?_
    refine v_sub (L' := [(2, .int (nI (v + 1))), (1, .int (nI j)), (0, .ref m)]) [0, 2, 3] rfl ?_
    have fr21 : gfr [rows] h h19 := (gfr.t frR1 (gfr.t frR2 (gfr.t frR3 (gfr.t frR4 frR5))))
    have hv9 : ∀ w, w < 5 → R5 (330 * now + (10 + 5 * v + w)) = R (330 * now + (10 + 5 * v + w) + 5) := fun w hw => by
      rcases (show w = 0 ∨ w = 1 ∨ w = 2 ∨ w = 3 ∨ w = 4 by omega) with rfl | rfl | rfl | rfl | rfl
      · rw [eR5 _ (by omega), eR4 _ (by omega), eR3 _ (by omega), eR2 _ (by omega), fR1]; congr 1
      · rw [eR5 _ (by omega), eR4 _ (by omega), eR3 _ (by omega), fR2, eR1 _ (by omega)]; congr 1
      · rw [eR5 _ (by omega), eR4 _ (by omega), fR3, eR2 _ (by omega), eR1 _ (by omega)]; congr 1
      · rw [eR5 _ (by omega), fR4, eR3 _ (by omega), eR2 _ (by omega), eR1 _ (by omega)]; congr 1
      · rw [fR5, eR4 _ (by omega), eR3 _ (by omega), eR2 _ (by omega), eR1 _ (by omega)]; congr 1
    have g22 := frR5 _ _ (gnc (g_neA g17 rR4) gn0) g17
    refine ih (v := v + 1) g22 rR5 (by omega) (by omega) (fun q h1 h2 => ?_) (fun q hq => ?_) (fun hX vX RX a1 a2 a3 a4 a5 a6 => K hX vX RX a1 a2 a3 a4 a5 (gfr.t fr21 a6))
    · by_cases hq : q < 330 * now + 10 + 5 * v
      · rw [eR5 q (by omega), eR4 q (by omega), eR3 q (by omega), eR2 q (by omega), eR1 q (by omega)]; exact hA q h1 hq
      · have e9 := hv9 (q - (330 * now + 10 + 5 * v)) (by omega)
        rw [show 330 * now + (10 + 5 * v + (q - (330 * now + 10 + 5 * v))) = q by omega] at e9
        rw [e9]; exact hB _ (by omega)
    · rw [eR5 q (by omega), eR4 q (by omega), eR3 q (by omega), eR2 q (by omega), eR1 q (by omega)]; exact hB q (by omega)
set_option maxHeartbeats 4000000 in
set_option maxRecDepth 100000 in
theorem lpP_X7_drop {G : gG} {z0 : Nat} {X : gX} {l : Launch} {mc ms cells slots r v j N : Nat} {h : gH} {m rows asd now vals many way told oth lst text : Nat} {th und fl rl kd ok st wm fed len spot fa fat num frm may : Int32} {R R0 : Nat → Int32} (F : gF G z0 X cX7_drop 4 RX7 wsX7_drop (some .int) "drop" 3 66 mc ms) (hcc : cells ≤ mc) (hss : slots ≤ ms) (hm : h m = some (.inr (7, [.int th, .ref rows, .ref asd, .int (nI now), .int und, .ref vals, .ref many, .int fl, .int rl, .int kd, .int ok, .int st, .ref way, .int wm, .ref told, .ref oth, .ref lst, .ref text, .int fed, .int len, .int spot, .int fa, .int fat, .int num, .int frm, .int may]))) (hrows : h rows = some (oI G 2970 R)) (hnow : now < 9) (hN : N ≤ 64) (hRn : R0 (330 * now) = nI N) (hvr : v + r = N) (hA : ∀ u, u < v → R (330 * now + (10 + 5 * u + 0)) = upP j (R0 (330 * now + (10 + 5 * u + 0)))) (hB : ∀ q, (∀ u, u < v → q ≠ 330 * now + (10 + 5 * u + 0)) → R q = R0 q) (K : ∀ (h' : gH) (R' : Nat → Int32), h' m = some (.inr (7, [.int th, .ref rows, .ref asd, .int (nI now), .int und, .ref vals, .ref many, .int fl, .int rl, .int kd, .int ok, .int st, .ref way, .int wm, .ref told, .ref oth, .ref lst, .ref text, .int fed, .int len, .int spot, .int fa, .int fat, .int num, .int frm, .int may])) → h' rows = some (oI G 2970 R') → (∀ u, u < N → R' (330 * now + (10 + 5 * u + 0)) = upP j (R0 (330 * now + (10 + 5 * u + 0)))) → (∀ q, (∀ u, u < N → q ≠ 330 * now + (10 + 5 * u + 0)) → R' q = R0 q) → gfr [rows] h h' → gV G z0 X cells slots h' 145 [(2, .int (nI N)), (1, .int (nI j)), (0, .ref m)] []) : gV G z0 X cells slots h 107 [(2, .int (nI v)), (1, .int (nI j)), (0, .ref m)] [] := by
  induction r generalizing v R h with
  | zero =>
    obtain rfl : v = N := by omega
    have hRb : R (330 * now) = nI v := by rw [hB _ (fun u hu => by omega)]; exact hRn
    refine v_iload_n (pc' := 108) F dX7_drop_107 rfl (j := 0) rfl rfl ?_
    refine v_aload_n (pc' := 109) F dX7_drop_108 rfl (j := 2) rfl rfl ?_
    refine v_callV (pc' := 112) (rt := (some .int)) (mcc := 0) (msc := 0) (As := []) (st := [.int (nI v)]) F (fun l => c_X7_versions G z0 l hm hrows hnow hRb) gX7_drop_X7_versions rfl hv_X7_versions (by decide) (by decide) hm rfl rfl rfl (Nat.le_of_ble_eq_true rfl) (by omega) (by omega) dX7_drop_109 rfl (fun v1 h hqv => ?_)
    obtain ⟨rfl, rfl⟩ := hqv
    refine w_icmp_ge (tgt := 145) (pc' := 115) F (by omega) (by omega) dX7_drop_112 (by decide) rfl (fun _ => ?_) (fun c0 => absurd c0 (by omega))
    exact K h R hm hrows hA hB gfr.rf
  | succ r ih =>
    have hRb : R (330 * now) = nI N := by rw [hB _ (fun u hu => by omega)]; exact hRn
    have hRv : R (330 * now + (10 + 5 * v + 0)) = R0 (330 * now + (10 + 5 * v + 0)) := hB _ (fun u hu => by omega)
    refine v_iload_n (pc' := 108) F dX7_drop_107 rfl (j := 0) rfl rfl ?_
    refine v_aload_n (pc' := 109) F dX7_drop_108 rfl (j := 2) rfl rfl ?_
    refine v_callV (pc' := 112) (rt := (some .int)) (mcc := 0) (msc := 0) (As := []) (st := [.int (nI v)]) F (fun l => c_X7_versions G z0 l hm hrows hnow hRb) gX7_drop_X7_versions rfl hv_X7_versions (by decide) (by decide) hm rfl rfl rfl (Nat.le_of_ble_eq_true rfl) (by omega) (by omega) dX7_drop_109 rfl (fun v1 h hqv => ?_)
    obtain ⟨rfl, rfl⟩ := hqv
    refine w_icmp_ge (tgt := 145) (pc' := 115) F (by omega) (by omega) dX7_drop_112 (by decide) rfl (fun c0 => absurd c0 (by omega)) (fun _ => ?_)
    refine v_aload_n (pc' := 116) F dX7_drop_115 rfl (j := 2) rfl rfl ?_
    refine v_iload_n (pc' := 117) F dX7_drop_116 rfl (j := 0) rfl rfl ?_
    refine v_iconst (pc' := 118) (v := nI 0) F dX7_drop_117 (by decide) rfl ?_
    refine v_callV (pc' := 121) (rt := (some .int)) (mcc := 0) (msc := 0) (As := [.int (nI v), .int (nI 0)]) (st := []) F (fun l => c_X7_of G z0 l (v := v) (w := 0) hm hrows hnow (by omega) (by omega)) gX7_drop_X7_of rfl hv_X7_of (by decide) (by decide) hm rfl rfl rfl (Nat.le_of_ble_eq_true rfl) (by omega) (by omega) dX7_drop_118 rfl (fun v2 h hqo => ?_)
    obtain ⟨rfl, rfl⟩ := hqo
    refine v_iload_n (pc' := 122) F dX7_drop_121 rfl (j := 1) rfl rfl ?_
    refine v_icmp_le (tgt := 139) (pc' := 125) F dX7_drop_122 (by decide) rfl (fun c0 => ?_) (fun c0 => ?_)
    · refine v_iinc (pc' := 142) (j := 0) (x := nI v) (v := nI (v + 1)) (L' := [(2, .int (nI (v + 1))), (1, .int (nI j)), (0, .ref m)]) F dX7_drop_139 rfl (nI_add v 1) (by decide) rfl rfl ?_
      refine v_goto (tgt := 107) F dX7_drop_142 (by decide) ?_
      refine v_sub (L' := [(2, .int (nI (v + 1))), (1, .int (nI j)), (0, .ref m)]) [0, 1, 2] rfl ?_
      refine ih (v := v + 1) hm hrows (by omega) (fun u hu => ?_) (fun q hq => hB q (fun u hu => hq u (by omega))) K
      by_cases eu : u = v
      · subst eu
        rw [hRv] at c0 ⊢
        unfold upP
        rw [if_pos c0]
      · exact hA u (by omega)
    · refine v_aload_n (pc' := 126) F dX7_drop_125 rfl (j := 2) rfl rfl ?_
      refine v_iload_n (pc' := 127) F dX7_drop_126 rfl (j := 0) rfl rfl ?_
      refine v_iconst (pc' := 128) (v := nI 0) F dX7_drop_127 (by decide) rfl ?_
      refine v_aload_n (pc' := 129) F dX7_drop_128 rfl (j := 2) rfl rfl ?_
      refine v_iload_n (pc' := 130) F dX7_drop_129 rfl (j := 0) rfl rfl ?_
      refine v_iconst (pc' := 131) (v := nI 0) F dX7_drop_130 (by decide) rfl ?_
      refine v_callV (pc' := 134) (rt := (some .int)) (mcc := 0) (msc := 0) (As := [.int (nI v), .int (nI 0)]) (st := [.int (nI 0), .int (nI v), .ref m]) F (fun l => c_X7_of G z0 l (v := v) (w := 0) hm hrows hnow (by omega) (by omega)) gX7_drop_X7_of rfl hv_X7_of (by decide) (by decide) hm rfl rfl rfl (Nat.le_of_ble_eq_true rfl) (by omega) (by omega) dX7_drop_131 rfl (fun v3 h hqo => ?_)
      obtain ⟨rfl, rfl⟩ := hqo
      refine v_iconst (pc' := 135) (v := nI 1) F dX7_drop_134 (by decide) rfl ?_
      refine v_isub (pc' := 136) (v := (R (330 * now + (10 + 5 * v + 0))) - (nI 1)) F dX7_drop_135 rfl rfl ?_
      refine v_callV (pc' := 139) (rt := none) (mcc := 0) (msc := 0) (As := [.int (nI v), .int (nI 0), .int ((R (330 * now + (10 + 5 * v + 0))) - (nI 1))]) (st := []) F (fun l => c_X7_puts G z0 l (v := v) (w := 0) (R (330 * now + (10 + 5 * v + 0)) - nI 1) hm hrows hnow (by omega) (by omega)) gX7_drop_X7_puts rfl hv_X7_puts (by decide) (by decide) hm rfl rfl rfl (Nat.le_of_ble_eq_true rfl) (by omega) (by omega) dX7_drop_136 rfl (fun v5 h4 hqw => ?_)
      obtain ⟨rfl, rR1, frR1⟩ := hqw
      have eR1 : ∀ q, q ≠ 330 * now + (10 + 5 * v + 0) → upd R (330 * now + (10 + 5 * v + 0)) (R (330 * now + (10 + 5 * v + 0)) - nI 1) q = R q := fun q hq => upd_ne hq
      have fR1 : upd R (330 * now + (10 + 5 * v + 0)) (R (330 * now + (10 + 5 * v + 0)) - nI 1) (330 * now + (10 + 5 * v + 0)) = (R (330 * now + (10 + 5 * v + 0)) - nI 1) := upd_eq _ _ _
      generalize upd R (330 * now + (10 + 5 * v + 0)) (R (330 * now + (10 + 5 * v + 0)) - nI 1) = R1 at rR1 eR1 fR1
      refine v_iinc (pc' := 142) (j := 0) (x := nI v) (v := nI (v + 1)) (L' := [(2, .int (nI (v + 1))), (1, .int (nI j)), (0, .ref m)]) F dX7_drop_139 rfl (nI_add v 1) (by decide) rfl rfl ?_
      refine v_goto (tgt := 107) F dX7_drop_142 (by decide) ?_
      refine v_sub (L' := [(2, .int (nI (v + 1))), (1, .int (nI j)), (0, .ref m)]) [0, 1, 2] rfl ?_
      have fr6 : gfr [rows] h h4 := frR1
      have g7 := frR1 _ _ (gnc (g_neA hm hrows) gn0) hm
      refine ih (v := v + 1) g7 rR1 (by omega) (fun u hu => ?_) (fun q hq => by rw [eR1 q (hq v (by omega))]; exact hB q (fun u hu => hq u (by omega))) (fun hX RX a1 a2 a3 a4 a5 => K hX RX a1 a2 a3 a4 (gfr.t fr6 a5))
      by_cases eu : u = v
      · subst eu
        rw [fR1, hRv]
        rw [hRv] at c0
        unfold upP
        rw [if_neg c0]
      · rw [eR1 _ (by omega)]; exact hA u (by omega)

theorem qLen_w {os : List mO} (h : wOk os) : qLen os = (wVals os).length := by
  have hJ := qOf_J h
  unfold qLen
  generalize (qOf os).1 = q at hJ ⊢
  obtain ⟨f, r, fl, rl, T⟩ := q
  exact hJ.1.2.1
theorem wVals_lt {D : Dt} (w9 : wfD D) {v : Nat} (hv : v < D.1) : (wVals (D.2.2.2.2 v)).length < 64 := by
  have h1 := pS_w (w9.os hv).1
  have h2 := (w9.os hv).2
  rw [h1.2.1, List.length_drop]
  omega
theorem kd_lt {os : List mO} (h : wOk os) (hl : os.length < 64) : (qOf os).1.2.2.2.2.1 < 4 ∧ (qOf os).1.2.2.2.2.2.1 < 1000 ∧ (qOf os).1.2.2.1 < 1000 ∧ (qOf os).1.2.2.2.1 < 1000 := by
  have hJ := qOf_J h
  generalize (qOf os).1 = q at hJ ⊢
  obtain ⟨f, r, fl, rl, T⟩ := q
  have hs := hJ.1.small (by omega)
  have := hJ.1.2.2.2.1
  exact ⟨hs.1, hs.2, by show fl < 1000; omega, by show rl < 1000; omega⟩
theorem hv_X7_children : yX7_children.cls = RX7 ∧ yX7_children.cls ≠ "java/lang/invoke/MethodHandle" ∧ yX7_children.cls ≠ "java/lang/invoke/VarHandle" ∧ (parseMethodDescriptor yX7_children.desc).map (fun d => d.parameters.length) = some 1 := by decide +kernel
set_option maxHeartbeats 4000000 in
set_option maxRecDepth 100000 in
theorem lp2_X7_allOf {G : gG} {z0 : Nat} {X : gX} {l : Launch} {post : Option Value → gH → Prop} {mc ms cells slots j k : Nat} {h : gH} {m rows asd vals many way told oth lst text now : Nat} {th und fed len spot fa fat num frm may : Int32} {R : Nat → Int32} {D : Dt} (F : gF G z0 X cX7_allOf 5 RX7 wsX7_allOf (some .int) "allOf" 5 112 mc ms) (E : gE G z0 X post mc ms) (hcc : cells ≤ mc) (hss : slots ≤ ms) (hMS : mS G h m rows asd vals many way told oth lst text th now und fed len spot fa fat num frm may R) (hnow : now < 9) (w9 : wfD D) (hS : slD R (330 * now) D) (hkj : k + j = D.1) (hp : ∀ h' : gH, mS G h' m rows asd vals many way told oth lst text th now und fed len spot fa fat num frm may R → gfr [m, vals, many, way, told, oth, lst] h h' → post (some (.int (nI (gsum (fun i => if gsum (fun j => if (fun i => (asD D i).head?) j = some (id i) then 1 else 0) D.1 = 0 then 1 else 0) D.1)))) h') : gV G z0 X cells slots h 4 [(3, .int (nI k)), (2, .int (nI (gsum (fun i => if gsum (fun j => if (fun i => (asD D i).head?) j = some (id i) then 1 else 0) D.1 = 0 then 1 else 0) k))), (1, .int (nI 2)), (0, .ref m)] [] := by
  have hn64 := w9.2.1
  have hOk : ∀ i, i < D.1 → wOk (D.2.2.2.2 i) ∧ (D.2.2.2.2 i).length < 64 := fun i hi => w9.os hi
  induction j generalizing k h with
  | zero =>
    have hMS0 := hMS
    obtain ⟨fl, rl, kd, ok, st, wm, hm, hrows, ⟨V, hvals⟩, ⟨M, hmany⟩, ⟨W, hway⟩, ⟨f, htold⟩, ⟨g, hoth⟩, ⟨ll, hlst⟩, htw, how, hto⟩ := hMS
    obtain rfl : k = D.1 := by omega
    refine v_iload_n (pc' := 5) F dX7_allOf_4 rfl (j := 0) rfl rfl ?_
    refine v_aload_n (pc' := 6) F dX7_allOf_5 rfl (j := 3) rfl rfl ?_
    refine v_callV (pc' := 9) (rt := (some .int)) (mcc := 0) (msc := 0) (As := []) (st := [.int (nI D.1)]) F (fun l => c_X7_versions G z0 l hm hrows hnow hS.1) gX7_allOf_X7_versions rfl hv_X7_versions (by decide) (by decide) hm rfl rfl rfl (Nat.le_of_ble_eq_true rfl) (by omega) (by omega) dX7_allOf_6 rfl (fun v1 h hqv => ?_)
    obtain ⟨rfl, rfl⟩ := hqv
    refine w_icmp_ge (tgt := 132) (pc' := 12) F (by omega) (by omega) dX7_allOf_9 (by decide) rfl (fun _ => ?_) (fun c0 => absurd c0 (by omega))
    refine v_iload_n (pc' := 133) F dX7_allOf_132 rfl (j := 1) rfl rfl ?_
    exact v_iret F E (by omega) (by omega)  dX7_allOf_133 (hp h hMS0 gfr.rf)
  | succ j ih =>
    have hMS0 := hMS
    obtain ⟨fl, rl, kd, ok, st, wm, hm, hrows, ⟨V, hvals⟩, ⟨M, hmany⟩, ⟨W, hway⟩, ⟨f, htold⟩, ⟨g, hoth⟩, ⟨ll, hlst⟩, htw, how, hto⟩ := hMS
    have hkD : k < D.1 := by omega
    obtain ⟨hr0, hr1, hr2, hr3, hr4⟩ := hS.2.2.2 k hkD
    have hqk := qOf_le (hOk k hkD).1
    have hlk := (hOk k hkD).2
    refine v_iload_n (pc' := 5) F dX7_allOf_4 rfl (j := 0) rfl rfl ?_
    refine v_aload_n (pc' := 6) F dX7_allOf_5 rfl (j := 3) rfl rfl ?_
    refine v_callV (pc' := 9) (rt := (some .int)) (mcc := 0) (msc := 0) (As := []) (st := [.int (nI k)]) F (fun l => c_X7_versions G z0 l hm hrows hnow hS.1) gX7_allOf_X7_versions rfl hv_X7_versions (by decide) (by decide) hm rfl rfl rfl (Nat.le_of_ble_eq_true rfl) (by omega) (by omega) dX7_allOf_6 rfl (fun v1 h hqv => ?_)
    obtain ⟨rfl, rfl⟩ := hqv
    refine w_icmp_ge (tgt := 132) (pc' := 12) F (by omega) (by omega) dX7_allOf_9 (by decide) rfl (fun c0 => absurd c0 (by omega)) (fun _ => ?_)
    refine v_iload_n (pc' := 13) F dX7_allOf_12 rfl (j := 2) rfl rfl ?_
    refine v_iconst (pc' := 14) (v := nI 2) F dX7_allOf_13 (by decide) rfl ?_
    refine w_icmp_ne (tgt := 33) (pc' := 17) F (by omega) (by omega) dX7_allOf_14 (by decide) rfl (fun c0 => absurd c0 (by omega)) (fun _ => ?_)
    refine v_aload_n (pc' := 18) F dX7_allOf_17 rfl (j := 3) rfl rfl ?_
    refine v_iload_n (pc' := 19) F dX7_allOf_18 rfl (j := 0) rfl rfl ?_
    refine v_callV (pc' := 22) (rt := (some .int)) (mcc := 0) (msc := 0) (As := [.int (nI k)]) (st := []) F (fun l => c_X7_children G z0 l hm hrows hnow w9 hS (v := k) (by omega)) gX7_allOf_X7_children rfl hv_X7_children (by decide) (by decide) hm rfl rfl rfl (Nat.le_of_ble_eq_true rfl) (by omega) (by omega) dX7_allOf_19 rfl (fun v2 h hqc => ?_)
    obtain ⟨rfl, rfl⟩ := hqc
    have hcb : chD D k ≤ D.1 := gsum_b (fun i => by split <;> omega) _
    refine w_if_ne (tgt := 29) (pc' := 25) F (by omega) dX7_allOf_22 (by decide) rfl (fun c0 => ?_) (fun c0 => ?_)
    · refine v_iconst (pc' := 30) (v := nI 0) F dX7_allOf_29 (by decide) rfl ?_
      refine v_goto (tgt := 75) F dX7_allOf_30 (by decide) ?_
      refine v_istore (pc' := 77) (i := 4) (L' := [(4, .int (nI 0)), (3, .int (nI k)), (2, .int (nI (gsum (fun i => if gsum (fun j => if (fun i => (asD D i).head?) j = some (id i) then 1 else 0) D.1 = 0 then 1 else 0) k))), (1, .int (nI 2)), (0, .ref m)]) F dX7_allOf_75  (by decide) rfl rfl ?_
      refine v_iload_n (pc' := 78) F dX7_allOf_77 rfl (j := 3) rfl rfl ?_
      refine v_iconst (pc' := 79) (v := nI 3) F dX7_allOf_78 (by decide) rfl ?_
      refine w_icmp_ne (tgt := 101) (pc' := 82) F (by omega) (by omega) dX7_allOf_79 (by decide) rfl (fun _ => ?_) (fun c0 => absurd c0 (by omega))
      refine v_iload_n (pc' := 102) F dX7_allOf_101 rfl (j := 3) rfl rfl ?_
      refine v_iconst (pc' := 103) (v := nI 4) F dX7_allOf_102 (by decide) rfl ?_
      refine w_icmp_eq (tgt := 112) (pc' := 106) F (by omega) (by omega) dX7_allOf_103 (by decide) rfl (fun c0 => absurd c0 (by omega)) (fun _ => ?_)
      refine v_iload_n (pc' := 107) F dX7_allOf_106 rfl (j := 3) rfl rfl ?_
      refine v_bipush (pc' := 109) (v := nI 6) F dX7_allOf_107 (by decide) rfl ?_
      refine w_icmp_ne (tgt := 121) (pc' := 112) F (by omega) (by omega) dX7_allOf_109 (by decide) rfl (fun _ => ?_) (fun c0 => absurd c0 (by omega))
      refine v_iload_n (pc' := 122) F dX7_allOf_121 rfl (j := 2) rfl rfl ?_
      refine v_iload (pc' := 124) F dX7_allOf_122  (j := 0) rfl rfl ?_
      refine v_iadd (pc' := 125) (v := nI (gsum (fun i => if gsum (fun j => if (fun i => (asD D i).head?) j = some (id i) then 1 else 0) D.1 = 0 then 1 else 0) k)) F dX7_allOf_124 (g_eqn (nI_add (gsum (fun i => if gsum (fun j => if (fun i => (asD D i).head?) j = some (id i) then 1 else 0) D.1 = 0 then 1 else 0) k) 0) (by omega)) rfl ?_
      refine v_istore_n (pc' := 126) (i := 2) (L' := [(2, .int (nI (gsum (fun i => if gsum (fun j => if (fun i => (asD D i).head?) j = some (id i) then 1 else 0) D.1 = 0 then 1 else 0) k))), (4, .int (nI 0)), (3, .int (nI k)), (1, .int (nI 2)), (0, .ref m)]) F dX7_allOf_125 rfl (by decide) rfl rfl ?_
      refine v_iinc (pc' := 129) (j := 2) (x := nI k) (v := nI (k + 1)) (L' := [(3, .int (nI (k + 1))), (2, .int (nI (gsum (fun i => if gsum (fun j => if (fun i => (asD D i).head?) j = some (id i) then 1 else 0) D.1 = 0 then 1 else 0) k))), (4, .int (nI 0)), (1, .int (nI 2)), (0, .ref m)]) F dX7_allOf_126 rfl (nI_add k 1) (by decide) rfl rfl ?_
      refine v_goto (tgt := 4) F dX7_allOf_129 (by decide) ?_
      have fr3 : gfr [m, vals, many, way, told, oth, lst] h h := gfr.rf
      refine v_sub (L' := [(3, .int (nI (k + 1))), (2, .int (nI (gsum (fun i => if gsum (fun j => if (fun i => (asD D i).head?) j = some (id i) then 1 else 0) D.1 = 0 then 1 else 0) k))), (1, .int (nI 2)), (0, .ref m)]) [0, 1, 3, 4] rfl ?_
      have e1 : gsum (fun i => if gsum (fun j => if (fun i => (asD D i).head?) j = some (id i) then 1 else 0) D.1 = 0 then 1 else 0) (k + 1) = gsum (fun i => if gsum (fun j => if (fun i => (asD D i).head?) j = some (id i) then 1 else 0) D.1 = 0 then 1 else 0) k := by
        rw [gsum_s]
        rw [if_neg (show ¬ gsum (fun j => if (fun i => (asD D i).head?) j = some (id k) then 1 else 0) D.1 = 0 from c0)]; rfl
      have hi9 := ih (k := k + 1) hMS0 (by omega) (fun hA a1 a2 => hp hA a1 (gfr.t fr3 a2))
      rw [e1] at hi9
      exact hi9
    · refine v_iconst (pc' := 26) (v := nI 1) F dX7_allOf_25 (by decide) rfl ?_
      refine v_goto (tgt := 75) F dX7_allOf_26 (by decide) ?_
      refine v_istore (pc' := 77) (i := 4) (L' := [(4, .int (nI 1)), (3, .int (nI k)), (2, .int (nI (gsum (fun i => if gsum (fun j => if (fun i => (asD D i).head?) j = some (id i) then 1 else 0) D.1 = 0 then 1 else 0) k))), (1, .int (nI 2)), (0, .ref m)]) F dX7_allOf_75  (by decide) rfl rfl ?_
      refine v_iload_n (pc' := 78) F dX7_allOf_77 rfl (j := 3) rfl rfl ?_
      refine v_iconst (pc' := 79) (v := nI 3) F dX7_allOf_78 (by decide) rfl ?_
      refine w_icmp_ne (tgt := 101) (pc' := 82) F (by omega) (by omega) dX7_allOf_79 (by decide) rfl (fun _ => ?_) (fun c0 => absurd c0 (by omega))
      refine v_iload_n (pc' := 102) F dX7_allOf_101 rfl (j := 3) rfl rfl ?_
      refine v_iconst (pc' := 103) (v := nI 4) F dX7_allOf_102 (by decide) rfl ?_
      refine w_icmp_eq (tgt := 112) (pc' := 106) F (by omega) (by omega) dX7_allOf_103 (by decide) rfl (fun c0 => absurd c0 (by omega)) (fun _ => ?_)
      refine v_iload_n (pc' := 107) F dX7_allOf_106 rfl (j := 3) rfl rfl ?_
      refine v_bipush (pc' := 109) (v := nI 6) F dX7_allOf_107 (by decide) rfl ?_
      refine w_icmp_ne (tgt := 121) (pc' := 112) F (by omega) (by omega) dX7_allOf_109 (by decide) rfl (fun _ => ?_) (fun c0 => absurd c0 (by omega))
      refine v_iload_n (pc' := 122) F dX7_allOf_121 rfl (j := 2) rfl rfl ?_
      refine v_iload (pc' := 124) F dX7_allOf_122  (j := 0) rfl rfl ?_
      refine v_iadd (pc' := 125) (v := nI (gsum (fun i => if gsum (fun j => if (fun i => (asD D i).head?) j = some (id i) then 1 else 0) D.1 = 0 then 1 else 0) k + 1)) F dX7_allOf_124 (nI_add (gsum (fun i => if gsum (fun j => if (fun i => (asD D i).head?) j = some (id i) then 1 else 0) D.1 = 0 then 1 else 0) k) 1) rfl ?_
      refine v_istore_n (pc' := 126) (i := 2) (L' := [(2, .int (nI (gsum (fun i => if gsum (fun j => if (fun i => (asD D i).head?) j = some (id i) then 1 else 0) D.1 = 0 then 1 else 0) k + 1))), (4, .int (nI 1)), (3, .int (nI k)), (1, .int (nI 2)), (0, .ref m)]) F dX7_allOf_125 rfl (by decide) rfl rfl ?_
      refine v_iinc (pc' := 129) (j := 2) (x := nI k) (v := nI (k + 1)) (L' := [(3, .int (nI (k + 1))), (2, .int (nI (gsum (fun i => if gsum (fun j => if (fun i => (asD D i).head?) j = some (id i) then 1 else 0) D.1 = 0 then 1 else 0) k + 1))), (4, .int (nI 1)), (1, .int (nI 2)), (0, .ref m)]) F dX7_allOf_126 rfl (nI_add k 1) (by decide) rfl rfl ?_
      refine v_goto (tgt := 4) F dX7_allOf_129 (by decide) ?_
      have fr4 : gfr [m, vals, many, way, told, oth, lst] h h := gfr.rf
      refine v_sub (L' := [(3, .int (nI (k + 1))), (2, .int (nI (gsum (fun i => if gsum (fun j => if (fun i => (asD D i).head?) j = some (id i) then 1 else 0) D.1 = 0 then 1 else 0) k + 1))), (1, .int (nI 2)), (0, .ref m)]) [0, 1, 3, 4] rfl ?_
      have e1 : gsum (fun i => if gsum (fun j => if (fun i => (asD D i).head?) j = some (id i) then 1 else 0) D.1 = 0 then 1 else 0) (k + 1) = gsum (fun i => if gsum (fun j => if (fun i => (asD D i).head?) j = some (id i) then 1 else 0) D.1 = 0 then 1 else 0) k + 1 := by
        rw [gsum_s]
        rw [if_pos (show gsum (fun j => if (fun i => (asD D i).head?) j = some (id k) then 1 else 0) D.1 = 0 from c0)]
      have hi9 := ih (k := k + 1) hMS0 (by omega) (fun hA a1 a2 => hp hA a1 (gfr.t fr4 a2))
      rw [e1] at hi9
      exact hi9
theorem k_X7_allOf_7 : gCl wsX7_allOf 7 RX7 TX7 26 := ⟨by decide +kernel, rfl⟩
theorem m_X7_allOf_f79 : Cond.fieldLink RX7 79 "SteadyQueuesModel" "kind" "I" ∈ wsX7_allOf := by decide +kernel
set_option maxHeartbeats 4000000 in
set_option maxRecDepth 100000 in
theorem lp3_X7_allOf {G : gG} {z0 : Nat} {X : gX} {l : Launch} {post : Option Value → gH → Prop} {mc ms cells slots j k : Nat} {h : gH} {m rows asd vals many way told oth lst text now : Nat} {th und fed len spot fa fat num frm may : Int32} {R : Nat → Int32} {D : Dt} (F : gF G z0 X cX7_allOf 5 RX7 wsX7_allOf (some .int) "allOf" 5 112 mc ms) (E : gE G z0 X post mc ms) (hcc : cells ≤ mc) (hss : slots ≤ ms) (hMS : mS G h m rows asd vals many way told oth lst text th now und fed len spot fa fat num frm may R) (hnow : now < 9) (w9 : wfD D) (hS : slD R (330 * now) D) (hkj : k + j = D.1) (hp : ∀ h' : gH, mS G h' m rows asd vals many way told oth lst text th now und fed len spot fa fat num frm may R → gfr [m, vals, many, way, told, oth, lst] h h' → post (some (.int (nI (gsum (fun i => if (qOf (D.2.2.2.2 i)).1.2.2.2.2.1 = 0 then 0 else 1) D.1)))) h') : gV G z0 X cells slots h 4 [(3, .int (nI k)), (2, .int (nI (gsum (fun i => if (qOf (D.2.2.2.2 i)).1.2.2.2.2.1 = 0 then 0 else 1) k))), (1, .int (nI 3)), (0, .ref m)] [] := by
  have hn64 := w9.2.1
  have hOk : ∀ i, i < D.1 → wOk (D.2.2.2.2 i) ∧ (D.2.2.2.2 i).length < 64 := fun i hi => w9.os hi
  induction j generalizing k h with
  | zero =>
    have hMS0 := hMS
    obtain ⟨fl, rl, kd, ok, st, wm, hm, hrows, ⟨V, hvals⟩, ⟨M, hmany⟩, ⟨W, hway⟩, ⟨f, htold⟩, ⟨g, hoth⟩, ⟨ll, hlst⟩, htw, how, hto⟩ := hMS
    obtain rfl : k = D.1 := by omega
    refine v_iload_n (pc' := 5) F dX7_allOf_4 rfl (j := 0) rfl rfl ?_
    refine v_aload_n (pc' := 6) F dX7_allOf_5 rfl (j := 3) rfl rfl ?_
    refine v_callV (pc' := 9) (rt := (some .int)) (mcc := 0) (msc := 0) (As := []) (st := [.int (nI D.1)]) F (fun l => c_X7_versions G z0 l hm hrows hnow hS.1) gX7_allOf_X7_versions rfl hv_X7_versions (by decide) (by decide) hm rfl rfl rfl (Nat.le_of_ble_eq_true rfl) (by omega) (by omega) dX7_allOf_6 rfl (fun v1 h hqv => ?_)
    obtain ⟨rfl, rfl⟩ := hqv
    refine w_icmp_ge (tgt := 132) (pc' := 12) F (by omega) (by omega) dX7_allOf_9 (by decide) rfl (fun _ => ?_) (fun c0 => absurd c0 (by omega))
    refine v_iload_n (pc' := 133) F dX7_allOf_132 rfl (j := 1) rfl rfl ?_
    exact v_iret F E (by omega) (by omega)  dX7_allOf_133 (hp h hMS0 gfr.rf)
  | succ j ih =>
    have hMS0 := hMS
    obtain ⟨fl, rl, kd, ok, st, wm, hm, hrows, ⟨V, hvals⟩, ⟨M, hmany⟩, ⟨W, hway⟩, ⟨f, htold⟩, ⟨g, hoth⟩, ⟨ll, hlst⟩, htw, how, hto⟩ := hMS
    have hkD : k < D.1 := by omega
    obtain ⟨hr0, hr1, hr2, hr3, hr4⟩ := hS.2.2.2 k hkD
    have hqk := qOf_le (hOk k hkD).1
    have hlk := (hOk k hkD).2
    refine v_iload_n (pc' := 5) F dX7_allOf_4 rfl (j := 0) rfl rfl ?_
    refine v_aload_n (pc' := 6) F dX7_allOf_5 rfl (j := 3) rfl rfl ?_
    refine v_callV (pc' := 9) (rt := (some .int)) (mcc := 0) (msc := 0) (As := []) (st := [.int (nI k)]) F (fun l => c_X7_versions G z0 l hm hrows hnow hS.1) gX7_allOf_X7_versions rfl hv_X7_versions (by decide) (by decide) hm rfl rfl rfl (Nat.le_of_ble_eq_true rfl) (by omega) (by omega) dX7_allOf_6 rfl (fun v1 h hqv => ?_)
    obtain ⟨rfl, rfl⟩ := hqv
    refine w_icmp_ge (tgt := 132) (pc' := 12) F (by omega) (by omega) dX7_allOf_9 (by decide) rfl (fun c0 => absurd c0 (by omega)) (fun _ => ?_)
    refine v_iload_n (pc' := 13) F dX7_allOf_12 rfl (j := 2) rfl rfl ?_
    refine v_iconst (pc' := 14) (v := nI 2) F dX7_allOf_13 (by decide) rfl ?_
    refine w_icmp_ne (tgt := 33) (pc' := 17) F (by omega) (by omega) dX7_allOf_14 (by decide) rfl (fun _ => ?_) (fun c0 => absurd c0 (by omega))
    refine v_iload_n (pc' := 34) F dX7_allOf_33 rfl (j := 2) rfl rfl ?_
    refine v_iconst (pc' := 35) (v := nI 4) F dX7_allOf_34 (by decide) rfl ?_
    refine w_icmp_ne (tgt := 47) (pc' := 38) F (by omega) (by omega) dX7_allOf_35 (by decide) rfl (fun _ => ?_) (fun c0 => absurd c0 (by omega))
    refine v_iload_n (pc' := 48) F dX7_allOf_47 rfl (j := 2) rfl rfl ?_
    refine v_bipush (pc' := 50) (v := nI 7) F dX7_allOf_48 (by decide) rfl ?_
    refine w_icmp_ne (tgt := 69) (pc' := 53) F (by omega) (by omega) dX7_allOf_50 (by decide) rfl (fun _ => ?_) (fun c0 => absurd c0 (by omega))
    refine v_aload_n (pc' := 70) F dX7_allOf_69 rfl (j := 3) rfl rfl ?_
    refine v_iload_n (pc' := 71) F dX7_allOf_70 rfl (j := 0) rfl rfl ?_
    refine v_iconst (pc' := 72) (v := nI 4) F dX7_allOf_71 (by decide) rfl ?_
    have y2 := hr4
    refine v_callV (pc' := 75) (rt := (some .int)) (mcc := 0) (msc := 0) (As := [.int (nI k), .int (nI 4)]) (st := []) F (fun l => c_X7_of G z0 l (v := k) (w := 4) hm hrows hnow (by omega) (by omega)) gX7_allOf_X7_of rfl hv_X7_of (by decide) (by decide) hm rfl rfl rfl (Nat.le_of_ble_eq_true rfl) (by omega) (by omega) dX7_allOf_72 rfl (fun v3 h hqo => ?_)
    rw [y2] at hqo; obtain ⟨rfl, rfl⟩ := hqo
    refine v_istore (pc' := 77) (i := 4) (L' := [(4, .int (nI ((qOf (D.2.2.2.2 k)).2))), (3, .int (nI k)), (2, .int (nI (gsum (fun i => if (qOf (D.2.2.2.2 i)).1.2.2.2.2.1 = 0 then 0 else 1) k))), (1, .int (nI 3)), (0, .ref m)]) F dX7_allOf_75  (by decide) rfl rfl ?_
    refine v_iload_n (pc' := 78) F dX7_allOf_77 rfl (j := 3) rfl rfl ?_
    refine v_iconst (pc' := 79) (v := nI 3) F dX7_allOf_78 (by decide) rfl ?_
    refine w_icmp_ne (tgt := 101) (pc' := 82) F (by omega) (by omega) dX7_allOf_79 (by decide) rfl (fun c0 => absurd c0 (by omega)) (fun _ => ?_)
    refine v_aload_n (pc' := 83) F dX7_allOf_82 rfl (j := 4) rfl rfl ?_
    refine v_iload_n (pc' := 84) F dX7_allOf_83 rfl (j := 1) rfl rfl ?_
    refine v_callV (pc' := 87) (rt := none) (mcc := 0) (msc := 0) (As := [.int (nI k)]) (st := []) F (fun l => s_X7_lays G z0 l hMS0 hnow w9 hS hkD) gX7_allOf_X7_lays rfl hv_X7_lays (by decide) (by decide) hm rfl rfl rfl (Nat.le_of_ble_eq_true rfl) (by omega) (by omega) dX7_allOf_84 rfl (fun v5 h4 hqc => ?_)
    obtain ⟨rfl, hLA, frA⟩ := hqc
    have hMA0 := hLA.s
    have hkk := (kd_lt (hOk k hkD).1 hlk).1
    obtain ⟨wm3, hm3, hrows3, hq3, ⟨W3, hway3⟩, ⟨f3, htold3⟩, ⟨g3, hoth3⟩, ⟨ll3, hlst3⟩, -, -, -⟩ := hLA
    have hq3b := hq3
    obtain ⟨V3, M3, ls3, hvals3, hmany3, hls3, hT3⟩ := hq3b
    refine v_aload_n (pc' := 88) F dX7_allOf_87 rfl (j := 4) rfl rfl ?_
    refine v_getf (pc' := 91) (v := .int (nI ((qOf (D.2.2.2.2 k)).1.2.2.2.2.1))) F k_X7_allOf_7 hm3 9 (by decide) m_X7_allOf_f79 rfl dX7_allOf_88 rfl ?_
    refine w_if_eq (tgt := 98) (pc' := 94) F (by omega) dX7_allOf_91 (by decide) rfl (fun c0 => ?_) (fun c0 => ?_)
    · refine v_iconst (pc' := 99) (v := nI 0) F dX7_allOf_98 (by decide) rfl ?_
      refine v_istore (pc' := 101) (i := 4) (L' := [(4, .int (nI 0)), (3, .int (nI k)), (2, .int (nI (gsum (fun i => if (qOf (D.2.2.2.2 i)).1.2.2.2.2.1 = 0 then 0 else 1) k))), (1, .int (nI 3)), (0, .ref m)]) F dX7_allOf_99  (by decide) rfl rfl ?_
      refine v_iload_n (pc' := 102) F dX7_allOf_101 rfl (j := 3) rfl rfl ?_
      refine v_iconst (pc' := 103) (v := nI 4) F dX7_allOf_102 (by decide) rfl ?_
      refine w_icmp_eq (tgt := 112) (pc' := 106) F (by omega) (by omega) dX7_allOf_103 (by decide) rfl (fun c0 => absurd c0 (by omega)) (fun _ => ?_)
      refine v_iload_n (pc' := 107) F dX7_allOf_106 rfl (j := 3) rfl rfl ?_
      refine v_bipush (pc' := 109) (v := nI 6) F dX7_allOf_107 (by decide) rfl ?_
      refine w_icmp_ne (tgt := 121) (pc' := 112) F (by omega) (by omega) dX7_allOf_109 (by decide) rfl (fun _ => ?_) (fun c0 => absurd c0 (by omega))
      refine v_iload_n (pc' := 122) F dX7_allOf_121 rfl (j := 2) rfl rfl ?_
      refine v_iload (pc' := 124) F dX7_allOf_122  (j := 0) rfl rfl ?_
      refine v_iadd (pc' := 125) (v := nI (gsum (fun i => if (qOf (D.2.2.2.2 i)).1.2.2.2.2.1 = 0 then 0 else 1) k)) F dX7_allOf_124 (g_eqn (nI_add (gsum (fun i => if (qOf (D.2.2.2.2 i)).1.2.2.2.2.1 = 0 then 0 else 1) k) 0) (by omega)) rfl ?_
      refine v_istore_n (pc' := 126) (i := 2) (L' := [(2, .int (nI (gsum (fun i => if (qOf (D.2.2.2.2 i)).1.2.2.2.2.1 = 0 then 0 else 1) k))), (4, .int (nI 0)), (3, .int (nI k)), (1, .int (nI 3)), (0, .ref m)]) F dX7_allOf_125 rfl (by decide) rfl rfl ?_
      refine v_iinc (pc' := 129) (j := 2) (x := nI k) (v := nI (k + 1)) (L' := [(3, .int (nI (k + 1))), (2, .int (nI (gsum (fun i => if (qOf (D.2.2.2.2 i)).1.2.2.2.2.1 = 0 then 0 else 1) k))), (4, .int (nI 0)), (1, .int (nI 3)), (0, .ref m)]) F dX7_allOf_126 rfl (nI_add k 1) (by decide) rfl rfl ?_
      refine v_goto (tgt := 4) F dX7_allOf_129 (by decide) ?_
      have fr6 : gfr [m, vals, many, way, told, oth, lst] h h4 := frA
      refine v_sub (L' := [(3, .int (nI (k + 1))), (2, .int (nI (gsum (fun i => if (qOf (D.2.2.2.2 i)).1.2.2.2.2.1 = 0 then 0 else 1) k))), (1, .int (nI 3)), (0, .ref m)]) [0, 1, 3, 4] rfl ?_
      have e1 : gsum (fun i => if (qOf (D.2.2.2.2 i)).1.2.2.2.2.1 = 0 then 0 else 1) (k + 1) = gsum (fun i => if (qOf (D.2.2.2.2 i)).1.2.2.2.2.1 = 0 then 0 else 1) k := by
        rw [gsum_s]
        rw [if_pos c0]; rfl
      have hi9 := ih (k := k + 1) hMA0 (by omega) (fun hA a1 a2 => hp hA a1 (gfr.t fr6 a2))
      rw [e1] at hi9
      exact hi9
    · refine v_iconst (pc' := 95) (v := nI 1) F dX7_allOf_94 (by decide) rfl ?_
      refine v_goto (tgt := 99) F dX7_allOf_95 (by decide) ?_
      refine v_istore (pc' := 101) (i := 4) (L' := [(4, .int (nI 1)), (3, .int (nI k)), (2, .int (nI (gsum (fun i => if (qOf (D.2.2.2.2 i)).1.2.2.2.2.1 = 0 then 0 else 1) k))), (1, .int (nI 3)), (0, .ref m)]) F dX7_allOf_99  (by decide) rfl rfl ?_
      refine v_iload_n (pc' := 102) F dX7_allOf_101 rfl (j := 3) rfl rfl ?_
      refine v_iconst (pc' := 103) (v := nI 4) F dX7_allOf_102 (by decide) rfl ?_
      refine w_icmp_eq (tgt := 112) (pc' := 106) F (by omega) (by omega) dX7_allOf_103 (by decide) rfl (fun c0 => absurd c0 (by omega)) (fun _ => ?_)
      refine v_iload_n (pc' := 107) F dX7_allOf_106 rfl (j := 3) rfl rfl ?_
      refine v_bipush (pc' := 109) (v := nI 6) F dX7_allOf_107 (by decide) rfl ?_
      refine w_icmp_ne (tgt := 121) (pc' := 112) F (by omega) (by omega) dX7_allOf_109 (by decide) rfl (fun _ => ?_) (fun c0 => absurd c0 (by omega))
      refine v_iload_n (pc' := 122) F dX7_allOf_121 rfl (j := 2) rfl rfl ?_
      refine v_iload (pc' := 124) F dX7_allOf_122  (j := 0) rfl rfl ?_
      refine v_iadd (pc' := 125) (v := nI (gsum (fun i => if (qOf (D.2.2.2.2 i)).1.2.2.2.2.1 = 0 then 0 else 1) k + 1)) F dX7_allOf_124 (nI_add (gsum (fun i => if (qOf (D.2.2.2.2 i)).1.2.2.2.2.1 = 0 then 0 else 1) k) 1) rfl ?_
      refine v_istore_n (pc' := 126) (i := 2) (L' := [(2, .int (nI (gsum (fun i => if (qOf (D.2.2.2.2 i)).1.2.2.2.2.1 = 0 then 0 else 1) k + 1))), (4, .int (nI 1)), (3, .int (nI k)), (1, .int (nI 3)), (0, .ref m)]) F dX7_allOf_125 rfl (by decide) rfl rfl ?_
      refine v_iinc (pc' := 129) (j := 2) (x := nI k) (v := nI (k + 1)) (L' := [(3, .int (nI (k + 1))), (2, .int (nI (gsum (fun i => if (qOf (D.2.2.2.2 i)).1.2.2.2.2.1 = 0 then 0 else 1) k + 1))), (4, .int (nI 1)), (1, .int (nI 3)), (0, .ref m)]) F dX7_allOf_126 rfl (nI_add k 1) (by decide) rfl rfl ?_
      refine v_goto (tgt := 4) F dX7_allOf_129 (by decide) ?_
      have fr7 : gfr [m, vals, many, way, told, oth, lst] h h4 := frA
      refine v_sub (L' := [(3, .int (nI (k + 1))), (2, .int (nI (gsum (fun i => if (qOf (D.2.2.2.2 i)).1.2.2.2.2.1 = 0 then 0 else 1) k + 1))), (1, .int (nI 3)), (0, .ref m)]) [0, 1, 3, 4] rfl ?_
      have e1 : gsum (fun i => if (qOf (D.2.2.2.2 i)).1.2.2.2.2.1 = 0 then 0 else 1) (k + 1) = gsum (fun i => if (qOf (D.2.2.2.2 i)).1.2.2.2.2.1 = 0 then 0 else 1) k + 1 := by
        rw [gsum_s]
        rw [if_neg c0]
      have hi9 := ih (k := k + 1) hMA0 (by omega) (fun hA a1 a2 => hp hA a1 (gfr.t fr7 a2))
      rw [e1] at hi9
      exact hi9
theorem m_X7_allOf_ml224 : Cond.methodLink RX7 224 Lib.Math.max.name ∈ wsX7_allOf := by decide +kernel
theorem m_X7_allOf_msmax : Cond.static Lib.Math.max.name ∈ wsX7_allOf := by decide +kernel
theorem m_X7_allOf_mi : Cond.initialized "java/lang/Math" ∈ wsX7_allOf := by decide +kernel
theorem m_X7_allOf_mcmax : Cond.code Lib.Math.max.name Lib.Math.max.code 2 (some .int) ∈ wsX7_allOf := by decide +kernel
set_option maxHeartbeats 4000000 in
set_option maxRecDepth 100000 in
theorem lp4_X7_allOf {G : gG} {z0 : Nat} {X : gX} {l : Launch} {post : Option Value → gH → Prop} {mc ms cells slots j k : Nat} {h : gH} {m rows asd vals many way told oth lst text now : Nat} {th und fed len spot fa fat num frm may : Int32} {R : Nat → Int32} {D : Dt} (F : gF G z0 X cX7_allOf 5 RX7 wsX7_allOf (some .int) "allOf" 5 112 mc ms) (E : gE G z0 X post mc ms) (hcc : cells ≤ mc) (hss : slots ≤ ms) (hMS : mS G h m rows asd vals many way told oth lst text th now und fed len spot fa fat num frm may R) (hnow : now < 9) (w9 : wfD D) (hS : slD R (330 * now) D) (hkj : k + j = D.1) (hp : ∀ h' : gH, mS G h' m rows asd vals many way told oth lst text th now und fed len spot fa fat num frm may R → gfr [m, vals, many, way, told, oth, lst] h h' → post (some (.int (nI (gmax (fun i => (D.2.2.2.2 i).length) D.1)))) h') : gV G z0 X cells slots h 4 [(3, .int (nI k)), (2, .int (nI (gmax (fun i => (D.2.2.2.2 i).length) k))), (1, .int (nI 4)), (0, .ref m)] [] := by
  have hn64 := w9.2.1
  have hOk : ∀ i, i < D.1 → wOk (D.2.2.2.2 i) ∧ (D.2.2.2.2 i).length < 64 := fun i hi => w9.os hi
  induction j generalizing k h with
  | zero =>
    have hMS0 := hMS
    obtain ⟨fl, rl, kd, ok, st, wm, hm, hrows, ⟨V, hvals⟩, ⟨M, hmany⟩, ⟨W, hway⟩, ⟨f, htold⟩, ⟨g, hoth⟩, ⟨ll, hlst⟩, htw, how, hto⟩ := hMS
    obtain rfl : k = D.1 := by omega
    refine v_iload_n (pc' := 5) F dX7_allOf_4 rfl (j := 0) rfl rfl ?_
    refine v_aload_n (pc' := 6) F dX7_allOf_5 rfl (j := 3) rfl rfl ?_
    refine v_callV (pc' := 9) (rt := (some .int)) (mcc := 0) (msc := 0) (As := []) (st := [.int (nI D.1)]) F (fun l => c_X7_versions G z0 l hm hrows hnow hS.1) gX7_allOf_X7_versions rfl hv_X7_versions (by decide) (by decide) hm rfl rfl rfl (Nat.le_of_ble_eq_true rfl) (by omega) (by omega) dX7_allOf_6 rfl (fun v1 h hqv => ?_)
    obtain ⟨rfl, rfl⟩ := hqv
    refine w_icmp_ge (tgt := 132) (pc' := 12) F (by omega) (by omega) dX7_allOf_9 (by decide) rfl (fun _ => ?_) (fun c0 => absurd c0 (by omega))
    refine v_iload_n (pc' := 133) F dX7_allOf_132 rfl (j := 1) rfl rfl ?_
    exact v_iret F E (by omega) (by omega)  dX7_allOf_133 (hp h hMS0 gfr.rf)
  | succ j ih =>
    have hMS0 := hMS
    obtain ⟨fl, rl, kd, ok, st, wm, hm, hrows, ⟨V, hvals⟩, ⟨M, hmany⟩, ⟨W, hway⟩, ⟨f, htold⟩, ⟨g, hoth⟩, ⟨ll, hlst⟩, htw, how, hto⟩ := hMS
    have hkD : k < D.1 := by omega
    obtain ⟨hr0, hr1, hr2, hr3, hr4⟩ := hS.2.2.2 k hkD
    have hqk := qOf_le (hOk k hkD).1
    have hlk := (hOk k hkD).2
    have hab : gmax (fun i => (D.2.2.2.2 i).length) k ≤ 63 := gmax_le (fun i hi => by have := hOk i (by omega); omega)
    refine v_iload_n (pc' := 5) F dX7_allOf_4 rfl (j := 0) rfl rfl ?_
    refine v_aload_n (pc' := 6) F dX7_allOf_5 rfl (j := 3) rfl rfl ?_
    refine v_callV (pc' := 9) (rt := (some .int)) (mcc := 0) (msc := 0) (As := []) (st := [.int (nI k)]) F (fun l => c_X7_versions G z0 l hm hrows hnow hS.1) gX7_allOf_X7_versions rfl hv_X7_versions (by decide) (by decide) hm rfl rfl rfl (Nat.le_of_ble_eq_true rfl) (by omega) (by omega) dX7_allOf_6 rfl (fun v1 h hqv => ?_)
    obtain ⟨rfl, rfl⟩ := hqv
    refine w_icmp_ge (tgt := 132) (pc' := 12) F (by omega) (by omega) dX7_allOf_9 (by decide) rfl (fun c0 => absurd c0 (by omega)) (fun _ => ?_)
    refine v_iload_n (pc' := 13) F dX7_allOf_12 rfl (j := 2) rfl rfl ?_
    refine v_iconst (pc' := 14) (v := nI 2) F dX7_allOf_13 (by decide) rfl ?_
    refine w_icmp_ne (tgt := 33) (pc' := 17) F (by omega) (by omega) dX7_allOf_14 (by decide) rfl (fun _ => ?_) (fun c0 => absurd c0 (by omega))
    refine v_iload_n (pc' := 34) F dX7_allOf_33 rfl (j := 2) rfl rfl ?_
    refine v_iconst (pc' := 35) (v := nI 4) F dX7_allOf_34 (by decide) rfl ?_
    refine w_icmp_ne (tgt := 47) (pc' := 38) F (by omega) (by omega) dX7_allOf_35 (by decide) rfl (fun c0 => absurd c0 (by omega)) (fun _ => ?_)
    refine v_aload_n (pc' := 39) F dX7_allOf_38 rfl (j := 3) rfl rfl ?_
    refine v_iload_n (pc' := 40) F dX7_allOf_39 rfl (j := 0) rfl rfl ?_
    refine v_iconst (pc' := 41) (v := nI 3) F dX7_allOf_40 (by decide) rfl ?_
    have y2 := hr3
    refine v_callV (pc' := 44) (rt := (some .int)) (mcc := 0) (msc := 0) (As := [.int (nI k), .int (nI 3)]) (st := []) F (fun l => c_X7_of G z0 l (v := k) (w := 3) hm hrows hnow (by omega) (by omega)) gX7_allOf_X7_of rfl hv_X7_of (by decide) (by decide) hm rfl rfl rfl (Nat.le_of_ble_eq_true rfl) (by omega) (by omega) dX7_allOf_41 rfl (fun v3 h hqo => ?_)
    rw [y2] at hqo; obtain ⟨rfl, rfl⟩ := hqo
    refine v_goto (tgt := 75) F dX7_allOf_44 (by decide) ?_
    refine v_istore (pc' := 77) (i := 4) (L' := [(4, .int (nI ((D.2.2.2.2 k).length))), (3, .int (nI k)), (2, .int (nI (gmax (fun i => (D.2.2.2.2 i).length) k))), (1, .int (nI 4)), (0, .ref m)]) F dX7_allOf_75  (by decide) rfl rfl ?_
    refine v_iload_n (pc' := 78) F dX7_allOf_77 rfl (j := 3) rfl rfl ?_
    refine v_iconst (pc' := 79) (v := nI 3) F dX7_allOf_78 (by decide) rfl ?_
    refine w_icmp_ne (tgt := 101) (pc' := 82) F (by omega) (by omega) dX7_allOf_79 (by decide) rfl (fun _ => ?_) (fun c0 => absurd c0 (by omega))
    refine v_iload_n (pc' := 102) F dX7_allOf_101 rfl (j := 3) rfl rfl ?_
    refine v_iconst (pc' := 103) (v := nI 4) F dX7_allOf_102 (by decide) rfl ?_
    refine w_icmp_eq (tgt := 112) (pc' := 106) F (by omega) (by omega) dX7_allOf_103 (by decide) rfl (fun _ => ?_) (fun c0 => absurd c0 (by omega))
    refine v_iload_n (pc' := 113) F dX7_allOf_112 rfl (j := 2) rfl rfl ?_
    refine v_iload (pc' := 115) F dX7_allOf_113  (j := 0) rfl rfl ?_
    refine v_mmax (pc' := 118) (v := nI (max (gmax (fun i => (D.2.2.2.2 i).length) k) ((D.2.2.2.2 k).length))) F m_X7_allOf_ml224 m_X7_allOf_msmax m_X7_allOf_mi m_X7_allOf_mcmax (by decide) (Nat.le_of_ble_eq_true rfl) (by omega) (by omega) (g_maxn (by omega) (by omega)) dX7_allOf_115 rfl ?_
    refine v_goto (tgt := 125) F dX7_allOf_118 (by decide) ?_
    refine v_istore_n (pc' := 126) (i := 2) (L' := [(2, .int (nI (max (gmax (fun i => (D.2.2.2.2 i).length) k) ((D.2.2.2.2 k).length)))), (4, .int (nI ((D.2.2.2.2 k).length))), (3, .int (nI k)), (1, .int (nI 4)), (0, .ref m)]) F dX7_allOf_125 rfl (by decide) rfl rfl ?_
    refine v_iinc (pc' := 129) (j := 2) (x := nI k) (v := nI (k + 1)) (L' := [(3, .int (nI (k + 1))), (2, .int (nI (max (gmax (fun i => (D.2.2.2.2 i).length) k) ((D.2.2.2.2 k).length)))), (4, .int (nI ((D.2.2.2.2 k).length))), (1, .int (nI 4)), (0, .ref m)]) F dX7_allOf_126 rfl (nI_add k 1) (by decide) rfl rfl ?_
    refine v_goto (tgt := 4) F dX7_allOf_129 (by decide) ?_
    have fr4 : gfr [m, vals, many, way, told, oth, lst] h h := gfr.rf
    refine v_sub (L' := [(3, .int (nI (k + 1))), (2, .int (nI (max (gmax (fun i => (D.2.2.2.2 i).length) k) ((D.2.2.2.2 k).length)))), (1, .int (nI 4)), (0, .ref m)]) [0, 1, 3, 4] rfl ?_
    have e1 : gmax (fun i => (D.2.2.2.2 i).length) (k + 1) = max (gmax (fun i => (D.2.2.2.2 i).length) k) ((D.2.2.2.2 k).length) := by
      rw [gmax_s]
    have hi9 := ih (k := k + 1) hMS0 (by omega) (fun hA a1 a2 => hp hA a1 (gfr.t fr4 a2))
    rw [e1] at hi9
    exact hi9
set_option maxHeartbeats 4000000 in
set_option maxRecDepth 100000 in
theorem lp5_X7_allOf {G : gG} {z0 : Nat} {X : gX} {l : Launch} {post : Option Value → gH → Prop} {mc ms cells slots j k : Nat} {h : gH} {m rows asd vals many way told oth lst text now : Nat} {th und fed len spot fa fat num frm may : Int32} {R : Nat → Int32} {D : Dt} (F : gF G z0 X cX7_allOf 5 RX7 wsX7_allOf (some .int) "allOf" 5 112 mc ms) (E : gE G z0 X post mc ms) (hcc : cells ≤ mc) (hss : slots ≤ ms) (hMS : mS G h m rows asd vals many way told oth lst text th now und fed len spot fa fat num frm may R) (hnow : now < 9) (w9 : wfD D) (hS : slD R (330 * now) D) (hkj : k + j = D.1) (hp : ∀ h' : gH, mS G h' m rows asd vals many way told oth lst text th now und fed len spot fa fat num frm may R → gfr [m, vals, many, way, told, oth, lst] h h' → post (some (.int (nI (gsum (fun i => (qOf (D.2.2.2.2 i)).2) D.1)))) h') : gV G z0 X cells slots h 4 [(3, .int (nI k)), (2, .int (nI (gsum (fun i => (qOf (D.2.2.2.2 i)).2) k))), (1, .int (nI 5)), (0, .ref m)] [] := by
  have hn64 := w9.2.1
  have hOk : ∀ i, i < D.1 → wOk (D.2.2.2.2 i) ∧ (D.2.2.2.2 i).length < 64 := fun i hi => w9.os hi
  induction j generalizing k h with
  | zero =>
    have hMS0 := hMS
    obtain ⟨fl, rl, kd, ok, st, wm, hm, hrows, ⟨V, hvals⟩, ⟨M, hmany⟩, ⟨W, hway⟩, ⟨f, htold⟩, ⟨g, hoth⟩, ⟨ll, hlst⟩, htw, how, hto⟩ := hMS
    obtain rfl : k = D.1 := by omega
    refine v_iload_n (pc' := 5) F dX7_allOf_4 rfl (j := 0) rfl rfl ?_
    refine v_aload_n (pc' := 6) F dX7_allOf_5 rfl (j := 3) rfl rfl ?_
    refine v_callV (pc' := 9) (rt := (some .int)) (mcc := 0) (msc := 0) (As := []) (st := [.int (nI D.1)]) F (fun l => c_X7_versions G z0 l hm hrows hnow hS.1) gX7_allOf_X7_versions rfl hv_X7_versions (by decide) (by decide) hm rfl rfl rfl (Nat.le_of_ble_eq_true rfl) (by omega) (by omega) dX7_allOf_6 rfl (fun v1 h hqv => ?_)
    obtain ⟨rfl, rfl⟩ := hqv
    refine w_icmp_ge (tgt := 132) (pc' := 12) F (by omega) (by omega) dX7_allOf_9 (by decide) rfl (fun _ => ?_) (fun c0 => absurd c0 (by omega))
    refine v_iload_n (pc' := 133) F dX7_allOf_132 rfl (j := 1) rfl rfl ?_
    exact v_iret F E (by omega) (by omega)  dX7_allOf_133 (hp h hMS0 gfr.rf)
  | succ j ih =>
    have hMS0 := hMS
    obtain ⟨fl, rl, kd, ok, st, wm, hm, hrows, ⟨V, hvals⟩, ⟨M, hmany⟩, ⟨W, hway⟩, ⟨f, htold⟩, ⟨g, hoth⟩, ⟨ll, hlst⟩, htw, how, hto⟩ := hMS
    have hkD : k < D.1 := by omega
    obtain ⟨hr0, hr1, hr2, hr3, hr4⟩ := hS.2.2.2 k hkD
    have hqk := qOf_le (hOk k hkD).1
    have hlk := (hOk k hkD).2
    refine v_iload_n (pc' := 5) F dX7_allOf_4 rfl (j := 0) rfl rfl ?_
    refine v_aload_n (pc' := 6) F dX7_allOf_5 rfl (j := 3) rfl rfl ?_
    refine v_callV (pc' := 9) (rt := (some .int)) (mcc := 0) (msc := 0) (As := []) (st := [.int (nI k)]) F (fun l => c_X7_versions G z0 l hm hrows hnow hS.1) gX7_allOf_X7_versions rfl hv_X7_versions (by decide) (by decide) hm rfl rfl rfl (Nat.le_of_ble_eq_true rfl) (by omega) (by omega) dX7_allOf_6 rfl (fun v1 h hqv => ?_)
    obtain ⟨rfl, rfl⟩ := hqv
    refine w_icmp_ge (tgt := 132) (pc' := 12) F (by omega) (by omega) dX7_allOf_9 (by decide) rfl (fun c0 => absurd c0 (by omega)) (fun _ => ?_)
    refine v_iload_n (pc' := 13) F dX7_allOf_12 rfl (j := 2) rfl rfl ?_
    refine v_iconst (pc' := 14) (v := nI 2) F dX7_allOf_13 (by decide) rfl ?_
    refine w_icmp_ne (tgt := 33) (pc' := 17) F (by omega) (by omega) dX7_allOf_14 (by decide) rfl (fun _ => ?_) (fun c0 => absurd c0 (by omega))
    refine v_iload_n (pc' := 34) F dX7_allOf_33 rfl (j := 2) rfl rfl ?_
    refine v_iconst (pc' := 35) (v := nI 4) F dX7_allOf_34 (by decide) rfl ?_
    refine w_icmp_ne (tgt := 47) (pc' := 38) F (by omega) (by omega) dX7_allOf_35 (by decide) rfl (fun _ => ?_) (fun c0 => absurd c0 (by omega))
    refine v_iload_n (pc' := 48) F dX7_allOf_47 rfl (j := 2) rfl rfl ?_
    refine v_bipush (pc' := 50) (v := nI 7) F dX7_allOf_48 (by decide) rfl ?_
    refine w_icmp_ne (tgt := 69) (pc' := 53) F (by omega) (by omega) dX7_allOf_50 (by decide) rfl (fun _ => ?_) (fun c0 => absurd c0 (by omega))
    refine v_aload_n (pc' := 70) F dX7_allOf_69 rfl (j := 3) rfl rfl ?_
    refine v_iload_n (pc' := 71) F dX7_allOf_70 rfl (j := 0) rfl rfl ?_
    refine v_iconst (pc' := 72) (v := nI 4) F dX7_allOf_71 (by decide) rfl ?_
    have y2 := hr4
    refine v_callV (pc' := 75) (rt := (some .int)) (mcc := 0) (msc := 0) (As := [.int (nI k), .int (nI 4)]) (st := []) F (fun l => c_X7_of G z0 l (v := k) (w := 4) hm hrows hnow (by omega) (by omega)) gX7_allOf_X7_of rfl hv_X7_of (by decide) (by decide) hm rfl rfl rfl (Nat.le_of_ble_eq_true rfl) (by omega) (by omega) dX7_allOf_72 rfl (fun v3 h hqo => ?_)
    rw [y2] at hqo; obtain ⟨rfl, rfl⟩ := hqo
    refine v_istore (pc' := 77) (i := 4) (L' := [(4, .int (nI ((qOf (D.2.2.2.2 k)).2))), (3, .int (nI k)), (2, .int (nI (gsum (fun i => (qOf (D.2.2.2.2 i)).2) k))), (1, .int (nI 5)), (0, .ref m)]) F dX7_allOf_75  (by decide) rfl rfl ?_
    refine v_iload_n (pc' := 78) F dX7_allOf_77 rfl (j := 3) rfl rfl ?_
    refine v_iconst (pc' := 79) (v := nI 3) F dX7_allOf_78 (by decide) rfl ?_
    refine w_icmp_ne (tgt := 101) (pc' := 82) F (by omega) (by omega) dX7_allOf_79 (by decide) rfl (fun _ => ?_) (fun c0 => absurd c0 (by omega))
    refine v_iload_n (pc' := 102) F dX7_allOf_101 rfl (j := 3) rfl rfl ?_
    refine v_iconst (pc' := 103) (v := nI 4) F dX7_allOf_102 (by decide) rfl ?_
    refine w_icmp_eq (tgt := 112) (pc' := 106) F (by omega) (by omega) dX7_allOf_103 (by decide) rfl (fun c0 => absurd c0 (by omega)) (fun _ => ?_)
    refine v_iload_n (pc' := 107) F dX7_allOf_106 rfl (j := 3) rfl rfl ?_
    refine v_bipush (pc' := 109) (v := nI 6) F dX7_allOf_107 (by decide) rfl ?_
    refine w_icmp_ne (tgt := 121) (pc' := 112) F (by omega) (by omega) dX7_allOf_109 (by decide) rfl (fun _ => ?_) (fun c0 => absurd c0 (by omega))
    refine v_iload_n (pc' := 122) F dX7_allOf_121 rfl (j := 2) rfl rfl ?_
    refine v_iload (pc' := 124) F dX7_allOf_122  (j := 0) rfl rfl ?_
    refine v_iadd (pc' := 125) (v := nI (gsum (fun i => (qOf (D.2.2.2.2 i)).2) k + ((qOf (D.2.2.2.2 k)).2))) F dX7_allOf_124 (nI_add (gsum (fun i => (qOf (D.2.2.2.2 i)).2) k) ((qOf (D.2.2.2.2 k)).2)) rfl ?_
    refine v_istore_n (pc' := 126) (i := 2) (L' := [(2, .int (nI (gsum (fun i => (qOf (D.2.2.2.2 i)).2) k + ((qOf (D.2.2.2.2 k)).2)))), (4, .int (nI ((qOf (D.2.2.2.2 k)).2))), (3, .int (nI k)), (1, .int (nI 5)), (0, .ref m)]) F dX7_allOf_125 rfl (by decide) rfl rfl ?_
    refine v_iinc (pc' := 129) (j := 2) (x := nI k) (v := nI (k + 1)) (L' := [(3, .int (nI (k + 1))), (2, .int (nI (gsum (fun i => (qOf (D.2.2.2.2 i)).2) k + ((qOf (D.2.2.2.2 k)).2)))), (4, .int (nI ((qOf (D.2.2.2.2 k)).2))), (1, .int (nI 5)), (0, .ref m)]) F dX7_allOf_126 rfl (nI_add k 1) (by decide) rfl rfl ?_
    refine v_goto (tgt := 4) F dX7_allOf_129 (by decide) ?_
    have fr4 : gfr [m, vals, many, way, told, oth, lst] h h := gfr.rf
    refine v_sub (L' := [(3, .int (nI (k + 1))), (2, .int (nI (gsum (fun i => (qOf (D.2.2.2.2 i)).2) k + ((qOf (D.2.2.2.2 k)).2)))), (1, .int (nI 5)), (0, .ref m)]) [0, 1, 3, 4] rfl ?_
    have e1 : gsum (fun i => (qOf (D.2.2.2.2 i)).2) (k + 1) = gsum (fun i => (qOf (D.2.2.2.2 i)).2) k + ((qOf (D.2.2.2.2 k)).2) := by
      rw [gsum_s]
    have hi9 := ih (k := k + 1) hMS0 (by omega) (fun hA a1 a2 => hp hA a1 (gfr.t fr4 a2))
    rw [e1] at hi9
    exact hi9
set_option maxHeartbeats 4000000 in
set_option maxRecDepth 100000 in
theorem lp6_X7_allOf {G : gG} {z0 : Nat} {X : gX} {l : Launch} {post : Option Value → gH → Prop} {mc ms cells slots j k : Nat} {h : gH} {m rows asd vals many way told oth lst text now : Nat} {th und fed len spot fa fat num frm may : Int32} {R : Nat → Int32} {D : Dt} (F : gF G z0 X cX7_allOf 5 RX7 wsX7_allOf (some .int) "allOf" 5 112 mc ms) (E : gE G z0 X post mc ms) (hcc : cells ≤ mc) (hss : slots ≤ ms) (hMS : mS G h m rows asd vals many way told oth lst text th now und fed len spot fa fat num frm may R) (hnow : now < 9) (w9 : wfD D) (hS : slD R (330 * now) D) (hkj : k + j = D.1) (hp : ∀ h' : gH, mS G h' m rows asd vals many way told oth lst text th now und fed len spot fa fat num frm may R → gfr [m, vals, many, way, told, oth, lst] h h' → post (some (.int (nI (gmax (fun i => (qOf (D.2.2.2.2 i)).2) D.1)))) h') : gV G z0 X cells slots h 4 [(3, .int (nI k)), (2, .int (nI (gmax (fun i => (qOf (D.2.2.2.2 i)).2) k))), (1, .int (nI 6)), (0, .ref m)] [] := by
  have hn64 := w9.2.1
  have hOk : ∀ i, i < D.1 → wOk (D.2.2.2.2 i) ∧ (D.2.2.2.2 i).length < 64 := fun i hi => w9.os hi
  induction j generalizing k h with
  | zero =>
    have hMS0 := hMS
    obtain ⟨fl, rl, kd, ok, st, wm, hm, hrows, ⟨V, hvals⟩, ⟨M, hmany⟩, ⟨W, hway⟩, ⟨f, htold⟩, ⟨g, hoth⟩, ⟨ll, hlst⟩, htw, how, hto⟩ := hMS
    obtain rfl : k = D.1 := by omega
    refine v_iload_n (pc' := 5) F dX7_allOf_4 rfl (j := 0) rfl rfl ?_
    refine v_aload_n (pc' := 6) F dX7_allOf_5 rfl (j := 3) rfl rfl ?_
    refine v_callV (pc' := 9) (rt := (some .int)) (mcc := 0) (msc := 0) (As := []) (st := [.int (nI D.1)]) F (fun l => c_X7_versions G z0 l hm hrows hnow hS.1) gX7_allOf_X7_versions rfl hv_X7_versions (by decide) (by decide) hm rfl rfl rfl (Nat.le_of_ble_eq_true rfl) (by omega) (by omega) dX7_allOf_6 rfl (fun v1 h hqv => ?_)
    obtain ⟨rfl, rfl⟩ := hqv
    refine w_icmp_ge (tgt := 132) (pc' := 12) F (by omega) (by omega) dX7_allOf_9 (by decide) rfl (fun _ => ?_) (fun c0 => absurd c0 (by omega))
    refine v_iload_n (pc' := 133) F dX7_allOf_132 rfl (j := 1) rfl rfl ?_
    exact v_iret F E (by omega) (by omega)  dX7_allOf_133 (hp h hMS0 gfr.rf)
  | succ j ih =>
    have hMS0 := hMS
    obtain ⟨fl, rl, kd, ok, st, wm, hm, hrows, ⟨V, hvals⟩, ⟨M, hmany⟩, ⟨W, hway⟩, ⟨f, htold⟩, ⟨g, hoth⟩, ⟨ll, hlst⟩, htw, how, hto⟩ := hMS
    have hkD : k < D.1 := by omega
    obtain ⟨hr0, hr1, hr2, hr3, hr4⟩ := hS.2.2.2 k hkD
    have hqk := qOf_le (hOk k hkD).1
    have hlk := (hOk k hkD).2
    have hab : gmax (fun i => (qOf (D.2.2.2.2 i)).2) k ≤ 4 := gmax_le (fun i hi => by have := hOk i (by omega); exact qOf_le this.1)
    refine v_iload_n (pc' := 5) F dX7_allOf_4 rfl (j := 0) rfl rfl ?_
    refine v_aload_n (pc' := 6) F dX7_allOf_5 rfl (j := 3) rfl rfl ?_
    refine v_callV (pc' := 9) (rt := (some .int)) (mcc := 0) (msc := 0) (As := []) (st := [.int (nI k)]) F (fun l => c_X7_versions G z0 l hm hrows hnow hS.1) gX7_allOf_X7_versions rfl hv_X7_versions (by decide) (by decide) hm rfl rfl rfl (Nat.le_of_ble_eq_true rfl) (by omega) (by omega) dX7_allOf_6 rfl (fun v1 h hqv => ?_)
    obtain ⟨rfl, rfl⟩ := hqv
    refine w_icmp_ge (tgt := 132) (pc' := 12) F (by omega) (by omega) dX7_allOf_9 (by decide) rfl (fun c0 => absurd c0 (by omega)) (fun _ => ?_)
    refine v_iload_n (pc' := 13) F dX7_allOf_12 rfl (j := 2) rfl rfl ?_
    refine v_iconst (pc' := 14) (v := nI 2) F dX7_allOf_13 (by decide) rfl ?_
    refine w_icmp_ne (tgt := 33) (pc' := 17) F (by omega) (by omega) dX7_allOf_14 (by decide) rfl (fun _ => ?_) (fun c0 => absurd c0 (by omega))
    refine v_iload_n (pc' := 34) F dX7_allOf_33 rfl (j := 2) rfl rfl ?_
    refine v_iconst (pc' := 35) (v := nI 4) F dX7_allOf_34 (by decide) rfl ?_
    refine w_icmp_ne (tgt := 47) (pc' := 38) F (by omega) (by omega) dX7_allOf_35 (by decide) rfl (fun _ => ?_) (fun c0 => absurd c0 (by omega))
    refine v_iload_n (pc' := 48) F dX7_allOf_47 rfl (j := 2) rfl rfl ?_
    refine v_bipush (pc' := 50) (v := nI 7) F dX7_allOf_48 (by decide) rfl ?_
    refine w_icmp_ne (tgt := 69) (pc' := 53) F (by omega) (by omega) dX7_allOf_50 (by decide) rfl (fun _ => ?_) (fun c0 => absurd c0 (by omega))
    refine v_aload_n (pc' := 70) F dX7_allOf_69 rfl (j := 3) rfl rfl ?_
    refine v_iload_n (pc' := 71) F dX7_allOf_70 rfl (j := 0) rfl rfl ?_
    refine v_iconst (pc' := 72) (v := nI 4) F dX7_allOf_71 (by decide) rfl ?_
    have y2 := hr4
    refine v_callV (pc' := 75) (rt := (some .int)) (mcc := 0) (msc := 0) (As := [.int (nI k), .int (nI 4)]) (st := []) F (fun l => c_X7_of G z0 l (v := k) (w := 4) hm hrows hnow (by omega) (by omega)) gX7_allOf_X7_of rfl hv_X7_of (by decide) (by decide) hm rfl rfl rfl (Nat.le_of_ble_eq_true rfl) (by omega) (by omega) dX7_allOf_72 rfl (fun v3 h hqo => ?_)
    rw [y2] at hqo; obtain ⟨rfl, rfl⟩ := hqo
    refine v_istore (pc' := 77) (i := 4) (L' := [(4, .int (nI ((qOf (D.2.2.2.2 k)).2))), (3, .int (nI k)), (2, .int (nI (gmax (fun i => (qOf (D.2.2.2.2 i)).2) k))), (1, .int (nI 6)), (0, .ref m)]) F dX7_allOf_75  (by decide) rfl rfl ?_
    refine v_iload_n (pc' := 78) F dX7_allOf_77 rfl (j := 3) rfl rfl ?_
    refine v_iconst (pc' := 79) (v := nI 3) F dX7_allOf_78 (by decide) rfl ?_
    refine w_icmp_ne (tgt := 101) (pc' := 82) F (by omega) (by omega) dX7_allOf_79 (by decide) rfl (fun _ => ?_) (fun c0 => absurd c0 (by omega))
    refine v_iload_n (pc' := 102) F dX7_allOf_101 rfl (j := 3) rfl rfl ?_
    refine v_iconst (pc' := 103) (v := nI 4) F dX7_allOf_102 (by decide) rfl ?_
    refine w_icmp_eq (tgt := 112) (pc' := 106) F (by omega) (by omega) dX7_allOf_103 (by decide) rfl (fun c0 => absurd c0 (by omega)) (fun _ => ?_)
    refine v_iload_n (pc' := 107) F dX7_allOf_106 rfl (j := 3) rfl rfl ?_
    refine v_bipush (pc' := 109) (v := nI 6) F dX7_allOf_107 (by decide) rfl ?_
    refine w_icmp_ne (tgt := 121) (pc' := 112) F (by omega) (by omega) dX7_allOf_109 (by decide) rfl (fun c0 => absurd c0 (by omega)) (fun _ => ?_)
    refine v_iload_n (pc' := 113) F dX7_allOf_112 rfl (j := 2) rfl rfl ?_
    refine v_iload (pc' := 115) F dX7_allOf_113  (j := 0) rfl rfl ?_
    refine v_mmax (pc' := 118) (v := nI (max (gmax (fun i => (qOf (D.2.2.2.2 i)).2) k) ((qOf (D.2.2.2.2 k)).2))) F m_X7_allOf_ml224 m_X7_allOf_msmax m_X7_allOf_mi m_X7_allOf_mcmax (by decide) (Nat.le_of_ble_eq_true rfl) (by omega) (by omega) (g_maxn (by omega) (by omega)) dX7_allOf_115 rfl ?_
    refine v_goto (tgt := 125) F dX7_allOf_118 (by decide) ?_
    refine v_istore_n (pc' := 126) (i := 2) (L' := [(2, .int (nI (max (gmax (fun i => (qOf (D.2.2.2.2 i)).2) k) ((qOf (D.2.2.2.2 k)).2)))), (4, .int (nI ((qOf (D.2.2.2.2 k)).2))), (3, .int (nI k)), (1, .int (nI 6)), (0, .ref m)]) F dX7_allOf_125 rfl (by decide) rfl rfl ?_
    refine v_iinc (pc' := 129) (j := 2) (x := nI k) (v := nI (k + 1)) (L' := [(3, .int (nI (k + 1))), (2, .int (nI (max (gmax (fun i => (qOf (D.2.2.2.2 i)).2) k) ((qOf (D.2.2.2.2 k)).2)))), (4, .int (nI ((qOf (D.2.2.2.2 k)).2))), (1, .int (nI 6)), (0, .ref m)]) F dX7_allOf_126 rfl (nI_add k 1) (by decide) rfl rfl ?_
    refine v_goto (tgt := 4) F dX7_allOf_129 (by decide) ?_
    have fr4 : gfr [m, vals, many, way, told, oth, lst] h h := gfr.rf
    refine v_sub (L' := [(3, .int (nI (k + 1))), (2, .int (nI (max (gmax (fun i => (qOf (D.2.2.2.2 i)).2) k) ((qOf (D.2.2.2.2 k)).2)))), (1, .int (nI 6)), (0, .ref m)]) [0, 1, 3, 4] rfl ?_
    have e1 : gmax (fun i => (qOf (D.2.2.2.2 i)).2) (k + 1) = max (gmax (fun i => (qOf (D.2.2.2.2 i)).2) k) ((qOf (D.2.2.2.2 k)).2) := by
      rw [gmax_s]
    have hi9 := ih (k := k + 1) hMS0 (by omega) (fun hA a1 a2 => hp hA a1 (gfr.t fr4 a2))
    rw [e1] at hi9
    exact hi9
set_option maxHeartbeats 4000000 in
set_option maxRecDepth 100000 in
theorem lp7_X7_allOf {G : gG} {z0 : Nat} {X : gX} {l : Launch} {post : Option Value → gH → Prop} {mc ms cells slots j k : Nat} {h : gH} {m rows asd vals many way told oth lst text now : Nat} {th und fed len spot fa fat num frm may : Int32} {R : Nat → Int32} {D : Dt} (F : gF G z0 X cX7_allOf 5 RX7 wsX7_allOf (some .int) "allOf" 5 112 mc ms) (E : gE G z0 X post mc ms) (hcc : cells ≤ mc) (hss : slots ≤ ms) (hMS : mS G h m rows asd vals many way told oth lst text th now und fed len spot fa fat num frm may R) (hnow : now < 9) (w9 : wfD D) (hS : slD R (330 * now) D) (hkj : k + j = D.1) (hp : ∀ h' : gH, mS G h' m rows asd vals many way told oth lst text th now und fed len spot fa fat num frm may R → gfr [m, vals, many, way, told, oth, lst] h h' → post (some (.int (nI (gsum (fun i => if (qOf (D.2.2.2.2 i)).1.2.2.1 + (qOf (D.2.2.2.2 i)).1.2.2.2.1 = 0 then 1 else 0) D.1)))) h') : gV G z0 X cells slots h 4 [(3, .int (nI k)), (2, .int (nI (gsum (fun i => if (qOf (D.2.2.2.2 i)).1.2.2.1 + (qOf (D.2.2.2.2 i)).1.2.2.2.1 = 0 then 1 else 0) k))), (1, .int (nI 7)), (0, .ref m)] [] := by
  have hn64 := w9.2.1
  have hOk : ∀ i, i < D.1 → wOk (D.2.2.2.2 i) ∧ (D.2.2.2.2 i).length < 64 := fun i hi => w9.os hi
  induction j generalizing k h with
  | zero =>
    have hMS0 := hMS
    obtain ⟨fl, rl, kd, ok, st, wm, hm, hrows, ⟨V, hvals⟩, ⟨M, hmany⟩, ⟨W, hway⟩, ⟨f, htold⟩, ⟨g, hoth⟩, ⟨ll, hlst⟩, htw, how, hto⟩ := hMS
    obtain rfl : k = D.1 := by omega
    refine v_iload_n (pc' := 5) F dX7_allOf_4 rfl (j := 0) rfl rfl ?_
    refine v_aload_n (pc' := 6) F dX7_allOf_5 rfl (j := 3) rfl rfl ?_
    refine v_callV (pc' := 9) (rt := (some .int)) (mcc := 0) (msc := 0) (As := []) (st := [.int (nI D.1)]) F (fun l => c_X7_versions G z0 l hm hrows hnow hS.1) gX7_allOf_X7_versions rfl hv_X7_versions (by decide) (by decide) hm rfl rfl rfl (Nat.le_of_ble_eq_true rfl) (by omega) (by omega) dX7_allOf_6 rfl (fun v1 h hqv => ?_)
    obtain ⟨rfl, rfl⟩ := hqv
    refine w_icmp_ge (tgt := 132) (pc' := 12) F (by omega) (by omega) dX7_allOf_9 (by decide) rfl (fun _ => ?_) (fun c0 => absurd c0 (by omega))
    refine v_iload_n (pc' := 133) F dX7_allOf_132 rfl (j := 1) rfl rfl ?_
    exact v_iret F E (by omega) (by omega)  dX7_allOf_133 (hp h hMS0 gfr.rf)
  | succ j ih =>
    have hMS0 := hMS
    obtain ⟨fl, rl, kd, ok, st, wm, hm, hrows, ⟨V, hvals⟩, ⟨M, hmany⟩, ⟨W, hway⟩, ⟨f, htold⟩, ⟨g, hoth⟩, ⟨ll, hlst⟩, htw, how, hto⟩ := hMS
    have hkD : k < D.1 := by omega
    obtain ⟨hr0, hr1, hr2, hr3, hr4⟩ := hS.2.2.2 k hkD
    have hqk := qOf_le (hOk k hkD).1
    have hlk := (hOk k hkD).2
    refine v_iload_n (pc' := 5) F dX7_allOf_4 rfl (j := 0) rfl rfl ?_
    refine v_aload_n (pc' := 6) F dX7_allOf_5 rfl (j := 3) rfl rfl ?_
    refine v_callV (pc' := 9) (rt := (some .int)) (mcc := 0) (msc := 0) (As := []) (st := [.int (nI k)]) F (fun l => c_X7_versions G z0 l hm hrows hnow hS.1) gX7_allOf_X7_versions rfl hv_X7_versions (by decide) (by decide) hm rfl rfl rfl (Nat.le_of_ble_eq_true rfl) (by omega) (by omega) dX7_allOf_6 rfl (fun v1 h hqv => ?_)
    obtain ⟨rfl, rfl⟩ := hqv
    refine w_icmp_ge (tgt := 132) (pc' := 12) F (by omega) (by omega) dX7_allOf_9 (by decide) rfl (fun c0 => absurd c0 (by omega)) (fun _ => ?_)
    refine v_iload_n (pc' := 13) F dX7_allOf_12 rfl (j := 2) rfl rfl ?_
    refine v_iconst (pc' := 14) (v := nI 2) F dX7_allOf_13 (by decide) rfl ?_
    refine w_icmp_ne (tgt := 33) (pc' := 17) F (by omega) (by omega) dX7_allOf_14 (by decide) rfl (fun _ => ?_) (fun c0 => absurd c0 (by omega))
    refine v_iload_n (pc' := 34) F dX7_allOf_33 rfl (j := 2) rfl rfl ?_
    refine v_iconst (pc' := 35) (v := nI 4) F dX7_allOf_34 (by decide) rfl ?_
    refine w_icmp_ne (tgt := 47) (pc' := 38) F (by omega) (by omega) dX7_allOf_35 (by decide) rfl (fun _ => ?_) (fun c0 => absurd c0 (by omega))
    refine v_iload_n (pc' := 48) F dX7_allOf_47 rfl (j := 2) rfl rfl ?_
    refine v_bipush (pc' := 50) (v := nI 7) F dX7_allOf_48 (by decide) rfl ?_
    refine w_icmp_ne (tgt := 69) (pc' := 53) F (by omega) (by omega) dX7_allOf_50 (by decide) rfl (fun c0 => absurd c0 (by omega)) (fun _ => ?_)
    refine v_aload_n (pc' := 54) F dX7_allOf_53 rfl (j := 3) rfl rfl ?_
    refine v_iload_n (pc' := 55) F dX7_allOf_54 rfl (j := 0) rfl rfl ?_
    refine v_callV (pc' := 58) (rt := (some .int)) (mcc := 0) (msc := 0) (As := [.int (nI k)]) (st := []) F (fun l => s_X7_length G z0 l hMS0 hnow w9 hS hkD) gX7_allOf_X7_length rfl hv_X7_length (by decide) (by decide) hm rfl rfl rfl (Nat.le_of_ble_eq_true rfl) (by omega) (by omega) dX7_allOf_55 rfl (fun v3 h2 hqc => ?_)
    obtain ⟨rfl, hMA, -, frA⟩ := hqc
    have hwl := wVals_lt w9 hkD
    have hqe := qLen_w (hOk k hkD).1
    unfold qLen at hqe
    have hMA0 := hMA
    obtain ⟨fl2, rl2, kd2, ok2, st2, wm2, hm2, hrows2, ⟨V2, hvals2⟩, ⟨M2, hmany2⟩, ⟨W2, hway2⟩, ⟨f2, htold2⟩, ⟨g2, hoth2⟩, ⟨ll2, hlst2⟩, -, -, -⟩ := hMA
    refine w_if_ne (tgt := 65) (pc' := 61) F (by omega) dX7_allOf_58 (by decide) rfl (fun c0 => ?_) (fun c0 => ?_)
    · refine v_iconst (pc' := 66) (v := nI 0) F dX7_allOf_65 (by decide) rfl ?_
      refine v_goto (tgt := 75) F dX7_allOf_66 (by decide) ?_
      refine v_istore (pc' := 77) (i := 4) (L' := [(4, .int (nI 0)), (3, .int (nI k)), (2, .int (nI (gsum (fun i => if (qOf (D.2.2.2.2 i)).1.2.2.1 + (qOf (D.2.2.2.2 i)).1.2.2.2.1 = 0 then 1 else 0) k))), (1, .int (nI 7)), (0, .ref m)]) F dX7_allOf_75  (by decide) rfl rfl ?_
      refine v_iload_n (pc' := 78) F dX7_allOf_77 rfl (j := 3) rfl rfl ?_
      refine v_iconst (pc' := 79) (v := nI 3) F dX7_allOf_78 (by decide) rfl ?_
      refine w_icmp_ne (tgt := 101) (pc' := 82) F (by omega) (by omega) dX7_allOf_79 (by decide) rfl (fun _ => ?_) (fun c0 => absurd c0 (by omega))
      refine v_iload_n (pc' := 102) F dX7_allOf_101 rfl (j := 3) rfl rfl ?_
      refine v_iconst (pc' := 103) (v := nI 4) F dX7_allOf_102 (by decide) rfl ?_
      refine w_icmp_eq (tgt := 112) (pc' := 106) F (by omega) (by omega) dX7_allOf_103 (by decide) rfl (fun c0 => absurd c0 (by omega)) (fun _ => ?_)
      refine v_iload_n (pc' := 107) F dX7_allOf_106 rfl (j := 3) rfl rfl ?_
      refine v_bipush (pc' := 109) (v := nI 6) F dX7_allOf_107 (by decide) rfl ?_
      refine w_icmp_ne (tgt := 121) (pc' := 112) F (by omega) (by omega) dX7_allOf_109 (by decide) rfl (fun _ => ?_) (fun c0 => absurd c0 (by omega))
      refine v_iload_n (pc' := 122) F dX7_allOf_121 rfl (j := 2) rfl rfl ?_
      refine v_iload (pc' := 124) F dX7_allOf_122  (j := 0) rfl rfl ?_
      refine v_iadd (pc' := 125) (v := nI (gsum (fun i => if (qOf (D.2.2.2.2 i)).1.2.2.1 + (qOf (D.2.2.2.2 i)).1.2.2.2.1 = 0 then 1 else 0) k)) F dX7_allOf_124 (g_eqn (nI_add (gsum (fun i => if (qOf (D.2.2.2.2 i)).1.2.2.1 + (qOf (D.2.2.2.2 i)).1.2.2.2.1 = 0 then 1 else 0) k) 0) (by omega)) rfl ?_
      refine v_istore_n (pc' := 126) (i := 2) (L' := [(2, .int (nI (gsum (fun i => if (qOf (D.2.2.2.2 i)).1.2.2.1 + (qOf (D.2.2.2.2 i)).1.2.2.2.1 = 0 then 1 else 0) k))), (4, .int (nI 0)), (3, .int (nI k)), (1, .int (nI 7)), (0, .ref m)]) F dX7_allOf_125 rfl (by decide) rfl rfl ?_
      refine v_iinc (pc' := 129) (j := 2) (x := nI k) (v := nI (k + 1)) (L' := [(3, .int (nI (k + 1))), (2, .int (nI (gsum (fun i => if (qOf (D.2.2.2.2 i)).1.2.2.1 + (qOf (D.2.2.2.2 i)).1.2.2.2.1 = 0 then 1 else 0) k))), (4, .int (nI 0)), (1, .int (nI 7)), (0, .ref m)]) F dX7_allOf_126 rfl (nI_add k 1) (by decide) rfl rfl ?_
      refine v_goto (tgt := 4) F dX7_allOf_129 (by decide) ?_
      have fr4 : gfr [m, vals, many, way, told, oth, lst] h h2 := frA
      refine v_sub (L' := [(3, .int (nI (k + 1))), (2, .int (nI (gsum (fun i => if (qOf (D.2.2.2.2 i)).1.2.2.1 + (qOf (D.2.2.2.2 i)).1.2.2.2.1 = 0 then 1 else 0) k))), (1, .int (nI 7)), (0, .ref m)]) [0, 1, 3, 4] rfl ?_
      have e1 : gsum (fun i => if (qOf (D.2.2.2.2 i)).1.2.2.1 + (qOf (D.2.2.2.2 i)).1.2.2.2.1 = 0 then 1 else 0) (k + 1) = gsum (fun i => if (qOf (D.2.2.2.2 i)).1.2.2.1 + (qOf (D.2.2.2.2 i)).1.2.2.2.1 = 0 then 1 else 0) k := by
        rw [gsum_s]
        rw [if_neg (by omega)]; rfl
      have hi9 := ih (k := k + 1) hMA0 (by omega) (fun hA a1 a2 => hp hA a1 (gfr.t fr4 a2))
      rw [e1] at hi9
      exact hi9
    · refine v_iconst (pc' := 62) (v := nI 1) F dX7_allOf_61 (by decide) rfl ?_
      refine v_goto (tgt := 75) F dX7_allOf_62 (by decide) ?_
      refine v_istore (pc' := 77) (i := 4) (L' := [(4, .int (nI 1)), (3, .int (nI k)), (2, .int (nI (gsum (fun i => if (qOf (D.2.2.2.2 i)).1.2.2.1 + (qOf (D.2.2.2.2 i)).1.2.2.2.1 = 0 then 1 else 0) k))), (1, .int (nI 7)), (0, .ref m)]) F dX7_allOf_75  (by decide) rfl rfl ?_
      refine v_iload_n (pc' := 78) F dX7_allOf_77 rfl (j := 3) rfl rfl ?_
      refine v_iconst (pc' := 79) (v := nI 3) F dX7_allOf_78 (by decide) rfl ?_
      refine w_icmp_ne (tgt := 101) (pc' := 82) F (by omega) (by omega) dX7_allOf_79 (by decide) rfl (fun _ => ?_) (fun c0 => absurd c0 (by omega))
      refine v_iload_n (pc' := 102) F dX7_allOf_101 rfl (j := 3) rfl rfl ?_
      refine v_iconst (pc' := 103) (v := nI 4) F dX7_allOf_102 (by decide) rfl ?_
      refine w_icmp_eq (tgt := 112) (pc' := 106) F (by omega) (by omega) dX7_allOf_103 (by decide) rfl (fun c0 => absurd c0 (by omega)) (fun _ => ?_)
      refine v_iload_n (pc' := 107) F dX7_allOf_106 rfl (j := 3) rfl rfl ?_
      refine v_bipush (pc' := 109) (v := nI 6) F dX7_allOf_107 (by decide) rfl ?_
      refine w_icmp_ne (tgt := 121) (pc' := 112) F (by omega) (by omega) dX7_allOf_109 (by decide) rfl (fun _ => ?_) (fun c0 => absurd c0 (by omega))
      refine v_iload_n (pc' := 122) F dX7_allOf_121 rfl (j := 2) rfl rfl ?_
      refine v_iload (pc' := 124) F dX7_allOf_122  (j := 0) rfl rfl ?_
      refine v_iadd (pc' := 125) (v := nI (gsum (fun i => if (qOf (D.2.2.2.2 i)).1.2.2.1 + (qOf (D.2.2.2.2 i)).1.2.2.2.1 = 0 then 1 else 0) k + 1)) F dX7_allOf_124 (nI_add (gsum (fun i => if (qOf (D.2.2.2.2 i)).1.2.2.1 + (qOf (D.2.2.2.2 i)).1.2.2.2.1 = 0 then 1 else 0) k) 1) rfl ?_
      refine v_istore_n (pc' := 126) (i := 2) (L' := [(2, .int (nI (gsum (fun i => if (qOf (D.2.2.2.2 i)).1.2.2.1 + (qOf (D.2.2.2.2 i)).1.2.2.2.1 = 0 then 1 else 0) k + 1))), (4, .int (nI 1)), (3, .int (nI k)), (1, .int (nI 7)), (0, .ref m)]) F dX7_allOf_125 rfl (by decide) rfl rfl ?_
      refine v_iinc (pc' := 129) (j := 2) (x := nI k) (v := nI (k + 1)) (L' := [(3, .int (nI (k + 1))), (2, .int (nI (gsum (fun i => if (qOf (D.2.2.2.2 i)).1.2.2.1 + (qOf (D.2.2.2.2 i)).1.2.2.2.1 = 0 then 1 else 0) k + 1))), (4, .int (nI 1)), (1, .int (nI 7)), (0, .ref m)]) F dX7_allOf_126 rfl (nI_add k 1) (by decide) rfl rfl ?_
      refine v_goto (tgt := 4) F dX7_allOf_129 (by decide) ?_
      have fr5 : gfr [m, vals, many, way, told, oth, lst] h h2 := frA
      refine v_sub (L' := [(3, .int (nI (k + 1))), (2, .int (nI (gsum (fun i => if (qOf (D.2.2.2.2 i)).1.2.2.1 + (qOf (D.2.2.2.2 i)).1.2.2.2.1 = 0 then 1 else 0) k + 1))), (1, .int (nI 7)), (0, .ref m)]) [0, 1, 3, 4] rfl ?_
      have e1 : gsum (fun i => if (qOf (D.2.2.2.2 i)).1.2.2.1 + (qOf (D.2.2.2.2 i)).1.2.2.2.1 = 0 then 1 else 0) (k + 1) = gsum (fun i => if (qOf (D.2.2.2.2 i)).1.2.2.1 + (qOf (D.2.2.2.2 i)).1.2.2.2.1 = 0 then 1 else 0) k + 1 := by
        rw [gsum_s]
        rw [if_pos (by omega)]
      have hi9 := ih (k := k + 1) hMA0 (by omega) (fun hA a1 a2 => hp hA a1 (gfr.t fr5 a2))
      rw [e1] at hi9
      exact hi9
set_option maxHeartbeats 4000000 in
set_option maxRecDepth 100000 in
theorem c_X7_allOf (G : gG) (z0 : Nat) (l : Launch) {h : gH} {m rows asd vals many way told oth lst text now : Nat} {th und fed len spot fa fat num frm may : Int32} {R : Nat → Int32} {D : Dt} {k : Nat} (hMS : mS G h m rows asd vals many way told oth lst text th now und fed len spot fa fat num frm may R) (hnow : now < 9) (w9 : wfD D) (hS : slD R (330 * now) D) (hk : 2 ≤ k ∧ k ≤ 7) : gC G z0 l yX7_allOf wsX7_allOf 5 112 [.ref m, .int (nI k)] h (fun o h' => o = some (.int (nI (nAll D.1 D.2.1 D.2.2.1 id (fun i => (asD D i).head?) D.2.2.2.2 k))) ∧ mS G h' m rows asd vals many way told oth lst text th now und fed len spot fa fat num frm may R ∧ gfr [m, vals, many, way, told, oth, lst] h h') 0 0 := by
  have hk9 : k = 2 ∨ k = 3 ∨ k = 4 ∨ k = 5 ∨ k = 6 ∨ k = 7 := by omega
  rcases hk9 with rfl | rfl | rfl | rfl | rfl | rfl
  · refine gC_of (cc := cX7_allOf) (nL := 5) (ret := (some .int)) (by decide) rfl (Nat.le_of_ble_eq_true rfl) ?_
    intro X F E _
    change gF G z0 X cX7_allOf 5 RX7 wsX7_allOf (some .int) "allOf" 5 112 _ _ at F
    show gV G z0 X 0 0 h 0 [(0, .ref m), (1, .int (nI 2))] []
    refine v_iconst (pc' := 1) (v := nI 0) F dX7_allOf_0 (by decide) rfl ?_
    refine v_istore_n (pc' := 2) (i := 2) (L' := [(2, .int (nI 0)), (0, .ref m), (1, .int (nI 2))]) F dX7_allOf_1 rfl (by decide) rfl rfl ?_
    refine v_iconst (pc' := 3) (v := nI 0) F dX7_allOf_2 (by decide) rfl ?_
    refine v_istore_n (pc' := 4) (i := 3) (L' := [(3, .int (nI 0)), (2, .int (nI 0)), (0, .ref m), (1, .int (nI 2))]) F dX7_allOf_3 rfl (by decide) rfl rfl ?_
    refine v_sub (L' := [(3, .int (nI 0)), (2, .int (nI 0)), (1, .int (nI 2)), (0, .ref m)]) [0, 1, 3, 2] rfl ?_
    exact lp2_X7_allOf (l := l) (k := 0) (j := D.1) F E (by omega) (by omega) hMS hnow w9 hS (by omega) (fun hA a1 a2 => ⟨rfl, a1, a2⟩)
  · refine gC_of (cc := cX7_allOf) (nL := 5) (ret := (some .int)) (by decide) rfl (Nat.le_of_ble_eq_true rfl) ?_
    intro X F E _
    change gF G z0 X cX7_allOf 5 RX7 wsX7_allOf (some .int) "allOf" 5 112 _ _ at F
    show gV G z0 X 0 0 h 0 [(0, .ref m), (1, .int (nI 3))] []
    refine v_iconst (pc' := 1) (v := nI 0) F dX7_allOf_0 (by decide) rfl ?_
    refine v_istore_n (pc' := 2) (i := 2) (L' := [(2, .int (nI 0)), (0, .ref m), (1, .int (nI 3))]) F dX7_allOf_1 rfl (by decide) rfl rfl ?_
    refine v_iconst (pc' := 3) (v := nI 0) F dX7_allOf_2 (by decide) rfl ?_
    refine v_istore_n (pc' := 4) (i := 3) (L' := [(3, .int (nI 0)), (2, .int (nI 0)), (0, .ref m), (1, .int (nI 3))]) F dX7_allOf_3 rfl (by decide) rfl rfl ?_
    refine v_sub (L' := [(3, .int (nI 0)), (2, .int (nI 0)), (1, .int (nI 3)), (0, .ref m)]) [0, 1, 3, 2] rfl ?_
    exact lp3_X7_allOf (l := l) (k := 0) (j := D.1) F E (by omega) (by omega) hMS hnow w9 hS (by omega) (fun hA a1 a2 => ⟨rfl, a1, a2⟩)
  · refine gC_of (cc := cX7_allOf) (nL := 5) (ret := (some .int)) (by decide) rfl (Nat.le_of_ble_eq_true rfl) ?_
    intro X F E _
    change gF G z0 X cX7_allOf 5 RX7 wsX7_allOf (some .int) "allOf" 5 112 _ _ at F
    show gV G z0 X 0 0 h 0 [(0, .ref m), (1, .int (nI 4))] []
    refine v_iconst (pc' := 1) (v := nI 0) F dX7_allOf_0 (by decide) rfl ?_
    refine v_istore_n (pc' := 2) (i := 2) (L' := [(2, .int (nI 0)), (0, .ref m), (1, .int (nI 4))]) F dX7_allOf_1 rfl (by decide) rfl rfl ?_
    refine v_iconst (pc' := 3) (v := nI 0) F dX7_allOf_2 (by decide) rfl ?_
    refine v_istore_n (pc' := 4) (i := 3) (L' := [(3, .int (nI 0)), (2, .int (nI 0)), (0, .ref m), (1, .int (nI 4))]) F dX7_allOf_3 rfl (by decide) rfl rfl ?_
    refine v_sub (L' := [(3, .int (nI 0)), (2, .int (nI 0)), (1, .int (nI 4)), (0, .ref m)]) [0, 1, 3, 2] rfl ?_
    exact lp4_X7_allOf (l := l) (k := 0) (j := D.1) F E (by omega) (by omega) hMS hnow w9 hS (by omega) (fun hA a1 a2 => ⟨rfl, a1, a2⟩)
  · refine gC_of (cc := cX7_allOf) (nL := 5) (ret := (some .int)) (by decide) rfl (Nat.le_of_ble_eq_true rfl) ?_
    intro X F E _
    change gF G z0 X cX7_allOf 5 RX7 wsX7_allOf (some .int) "allOf" 5 112 _ _ at F
    show gV G z0 X 0 0 h 0 [(0, .ref m), (1, .int (nI 5))] []
    refine v_iconst (pc' := 1) (v := nI 0) F dX7_allOf_0 (by decide) rfl ?_
    refine v_istore_n (pc' := 2) (i := 2) (L' := [(2, .int (nI 0)), (0, .ref m), (1, .int (nI 5))]) F dX7_allOf_1 rfl (by decide) rfl rfl ?_
    refine v_iconst (pc' := 3) (v := nI 0) F dX7_allOf_2 (by decide) rfl ?_
    refine v_istore_n (pc' := 4) (i := 3) (L' := [(3, .int (nI 0)), (2, .int (nI 0)), (0, .ref m), (1, .int (nI 5))]) F dX7_allOf_3 rfl (by decide) rfl rfl ?_
    refine v_sub (L' := [(3, .int (nI 0)), (2, .int (nI 0)), (1, .int (nI 5)), (0, .ref m)]) [0, 1, 3, 2] rfl ?_
    exact lp5_X7_allOf (l := l) (k := 0) (j := D.1) F E (by omega) (by omega) hMS hnow w9 hS (by omega) (fun hA a1 a2 => ⟨rfl, a1, a2⟩)
  · refine gC_of (cc := cX7_allOf) (nL := 5) (ret := (some .int)) (by decide) rfl (Nat.le_of_ble_eq_true rfl) ?_
    intro X F E _
    change gF G z0 X cX7_allOf 5 RX7 wsX7_allOf (some .int) "allOf" 5 112 _ _ at F
    show gV G z0 X 0 0 h 0 [(0, .ref m), (1, .int (nI 6))] []
    refine v_iconst (pc' := 1) (v := nI 0) F dX7_allOf_0 (by decide) rfl ?_
    refine v_istore_n (pc' := 2) (i := 2) (L' := [(2, .int (nI 0)), (0, .ref m), (1, .int (nI 6))]) F dX7_allOf_1 rfl (by decide) rfl rfl ?_
    refine v_iconst (pc' := 3) (v := nI 0) F dX7_allOf_2 (by decide) rfl ?_
    refine v_istore_n (pc' := 4) (i := 3) (L' := [(3, .int (nI 0)), (2, .int (nI 0)), (0, .ref m), (1, .int (nI 6))]) F dX7_allOf_3 rfl (by decide) rfl rfl ?_
    refine v_sub (L' := [(3, .int (nI 0)), (2, .int (nI 0)), (1, .int (nI 6)), (0, .ref m)]) [0, 1, 3, 2] rfl ?_
    exact lp6_X7_allOf (l := l) (k := 0) (j := D.1) F E (by omega) (by omega) hMS hnow w9 hS (by omega) (fun hA a1 a2 => ⟨rfl, a1, a2⟩)
  · refine gC_of (cc := cX7_allOf) (nL := 5) (ret := (some .int)) (by decide) rfl (Nat.le_of_ble_eq_true rfl) ?_
    intro X F E _
    change gF G z0 X cX7_allOf 5 RX7 wsX7_allOf (some .int) "allOf" 5 112 _ _ at F
    show gV G z0 X 0 0 h 0 [(0, .ref m), (1, .int (nI 7))] []
    refine v_iconst (pc' := 1) (v := nI 0) F dX7_allOf_0 (by decide) rfl ?_
    refine v_istore_n (pc' := 2) (i := 2) (L' := [(2, .int (nI 0)), (0, .ref m), (1, .int (nI 7))]) F dX7_allOf_1 rfl (by decide) rfl rfl ?_
    refine v_iconst (pc' := 3) (v := nI 0) F dX7_allOf_2 (by decide) rfl ?_
    refine v_istore_n (pc' := 4) (i := 3) (L' := [(3, .int (nI 0)), (2, .int (nI 0)), (0, .ref m), (1, .int (nI 7))]) F dX7_allOf_3 rfl (by decide) rfl rfl ?_
    refine v_sub (L' := [(3, .int (nI 0)), (2, .int (nI 0)), (1, .int (nI 7)), (0, .ref m)]) [0, 1, 3, 2] rfl ?_
    exact lp7_X7_allOf (l := l) (k := 0) (j := D.1) F E (by omega) (by omega) hMS hnow w9 hS (by omega) (fun hA a1 a2 => ⟨rfl, a1, a2⟩)
theorem hv_X7_allOf : yX7_allOf.cls = RX7 ∧ yX7_allOf.cls ≠ "java/lang/invoke/MethodHandle" ∧ yX7_allOf.cls ≠ "java/lang/invoke/VarHandle" ∧ (parseMethodDescriptor yX7_allOf.desc).map (fun d => d.parameters.length) = some 1 := by decide +kernel
set_option maxHeartbeats 4000000 in
set_option maxRecDepth 100000 in
theorem c_X7_toldOf (G : gG) (z0 : Nat) (l : Launch) {h : gH} {m rows asd vals many way told oth lst text now : Nat} {th und fed len spot fa fat num frm may : Int32} {R : Nat → Int32} {D : Dt} {k : Nat} (hMS : mS G h m rows asd vals many way told oth lst text th now und fed len spot fa fat num frm may R) (hnow : now < 9) (w9 : wfD D) (hS : slD R (330 * now) D) (hk : k < 10 ∧ k ≠ 8) : gC G z0 l yX7_toldOf wsX7_toldOf 6 136 [.ref m, .int (nI k)] h (fun o h' => o = some (.int (nI (nAll D.1 D.2.1 D.2.2.1 id (fun i => (asD D i).head?) D.2.2.2.2 k))) ∧ mS G h' m rows asd vals many way told oth lst text th now und fed len spot fa fat num frm may R ∧ gfr [m, vals, many, way, told, oth, lst] h h') 0 0 := by
  have hMS0 := hMS
  obtain ⟨fl, rl, kd, ok, st, wm, hm, hrows, ⟨V, hvals⟩, ⟨M, hmany⟩, ⟨W, hway⟩, ⟨f, htold⟩, ⟨g, hoth⟩, ⟨ll, hlst⟩, htw, how, hto⟩ := hMS
  have hk9 : k = 0 ∨ k = 1 ∨ k = 9 ∨ k = 2 ∨ k = 3 ∨ k = 4 ∨ k = 5 ∨ k = 6 ∨ k = 7 := by omega
  rcases hk9 with rfl | rfl | rfl | rfl | rfl | rfl | rfl | rfl | rfl
  · refine gC_of (cc := cX7_toldOf) (nL := 2) (ret := (some .int)) (by decide) rfl (Nat.le_of_ble_eq_true rfl) ?_
    intro X F E _
    change gF G z0 X cX7_toldOf 2 RX7 wsX7_toldOf (some .int) "toldOf" 6 136 _ _ at F
    show gV G z0 X 0 0 h 0 [(0, .ref m), (1, .int (nI 0))] []
    refine v_iload_n (pc' := 1) F dX7_toldOf_0 rfl (j := 1) rfl rfl ?_
    refine v_iconst (pc' := 2) (v := nI 2) F dX7_toldOf_1 (by decide) rfl ?_
    refine w_icmp_ge (tgt := 11) (pc' := 5) F (by omega) (by omega) dX7_toldOf_2 (by decide) rfl (fun c0 => absurd c0 (by omega)) (fun _ => ?_)
    refine v_aload_n (pc' := 6) F dX7_toldOf_5 rfl (j := 0) rfl rfl ?_
    refine v_iload_n (pc' := 7) F dX7_toldOf_6 rfl (j := 1) rfl rfl ?_
    refine v_callV (pc' := 10) (rt := (some .int)) (mcc := 0) (msc := 0) (As := [.int (nI 0)]) (st := []) F (fun l => c_X7_get G z0 l (k := 0) hm hrows hnow (by omega)) gX7_toldOf_X7_get rfl hv_X7_get (by decide) (by decide) hm rfl rfl rfl (Nat.le_of_ble_eq_true rfl) (by omega) (by omega) dX7_toldOf_7 rfl (fun v1 h hqg => ?_)
    rw [show R (330 * now + 0) = nI D.1 from hS.1] at hqg; obtain ⟨rfl, rfl⟩ := hqg
    exact v_iret F E (by omega) (by omega)  dX7_toldOf_10 ⟨rfl, hMS0, gfr.rf⟩
  · refine gC_of (cc := cX7_toldOf) (nL := 2) (ret := (some .int)) (by decide) rfl (Nat.le_of_ble_eq_true rfl) ?_
    intro X F E _
    change gF G z0 X cX7_toldOf 2 RX7 wsX7_toldOf (some .int) "toldOf" 6 136 _ _ at F
    show gV G z0 X 0 0 h 0 [(0, .ref m), (1, .int (nI 1))] []
    refine v_iload_n (pc' := 1) F dX7_toldOf_0 rfl (j := 1) rfl rfl ?_
    refine v_iconst (pc' := 2) (v := nI 2) F dX7_toldOf_1 (by decide) rfl ?_
    refine w_icmp_ge (tgt := 11) (pc' := 5) F (by omega) (by omega) dX7_toldOf_2 (by decide) rfl (fun c0 => absurd c0 (by omega)) (fun _ => ?_)
    refine v_aload_n (pc' := 6) F dX7_toldOf_5 rfl (j := 0) rfl rfl ?_
    refine v_iload_n (pc' := 7) F dX7_toldOf_6 rfl (j := 1) rfl rfl ?_
    refine v_callV (pc' := 10) (rt := (some .int)) (mcc := 0) (msc := 0) (As := [.int (nI 1)]) (st := []) F (fun l => c_X7_get G z0 l (k := 1) hm hrows hnow (by omega)) gX7_toldOf_X7_get rfl hv_X7_get (by decide) (by decide) hm rfl rfl rfl (Nat.le_of_ble_eq_true rfl) (by omega) (by omega) dX7_toldOf_7 rfl (fun v1 h hqg => ?_)
    rw [show R (330 * now + 1) = nI D.2.1 from hS.2.1] at hqg; obtain ⟨rfl, rfl⟩ := hqg
    exact v_iret F E (by omega) (by omega)  dX7_toldOf_10 ⟨rfl, hMS0, gfr.rf⟩
  · refine gC_of (cc := cX7_toldOf) (nL := 2) (ret := (some .int)) (by decide) rfl (Nat.le_of_ble_eq_true rfl) ?_
    intro X F E _
    change gF G z0 X cX7_toldOf 2 RX7 wsX7_toldOf (some .int) "toldOf" 6 136 _ _ at F
    show gV G z0 X 0 0 h 0 [(0, .ref m), (1, .int (nI 9))] []
    refine v_iload_n (pc' := 1) F dX7_toldOf_0 rfl (j := 1) rfl rfl ?_
    refine v_iconst (pc' := 2) (v := nI 2) F dX7_toldOf_1 (by decide) rfl ?_
    refine w_icmp_ge (tgt := 11) (pc' := 5) F (by omega) (by omega) dX7_toldOf_2 (by decide) rfl (fun _ => ?_) (fun c0 => absurd c0 (by omega))
    refine v_iload_n (pc' := 12) F dX7_toldOf_11 rfl (j := 1) rfl rfl ?_
    refine v_bipush (pc' := 14) (v := nI 8) F dX7_toldOf_12 (by decide) rfl ?_
    refine w_icmp_ne (tgt := 24) (pc' := 17) F (by omega) (by omega) dX7_toldOf_14 (by decide) rfl (fun _ => ?_) (fun c0 => absurd c0 (by omega))
    refine v_iload_n (pc' := 25) F dX7_toldOf_24 rfl (j := 1) rfl rfl ?_
    refine v_bipush (pc' := 27) (v := nI 9) F dX7_toldOf_25 (by decide) rfl ?_
    refine w_icmp_ne (tgt := 38) (pc' := 30) F (by omega) (by omega) dX7_toldOf_27 (by decide) rfl (fun c0 => absurd c0 (by omega)) (fun _ => ?_)
    refine v_aload_n (pc' := 31) F dX7_toldOf_30 rfl (j := 0) rfl rfl ?_
    refine v_iconst (pc' := 32) (v := nI 2) F dX7_toldOf_31 (by decide) rfl ?_
    refine v_callV (pc' := 35) (rt := (some .int)) (mcc := 0) (msc := 0) (As := [.int (nI 2)]) (st := []) F (fun l => c_X7_get G z0 l (k := 2) hm hrows hnow (by omega)) gX7_toldOf_X7_get rfl hv_X7_get (by decide) (by decide) hm rfl rfl rfl (Nat.le_of_ble_eq_true rfl) (by omega) (by omega) dX7_toldOf_32 rfl (fun v1 h hqg => ?_)
    rw [show R (330 * now + 2) = nI D.2.2.1 from hS.2.2.1] at hqg; obtain ⟨rfl, rfl⟩ := hqg
    refine v_goto (tgt := 43) F dX7_toldOf_35 (by decide) ?_
    exact v_iret F E (by omega) (by omega)  dX7_toldOf_43 ⟨rfl, hMS0, gfr.rf⟩
  · refine gC_of (cc := cX7_toldOf) (nL := 2) (ret := (some .int)) (by decide) rfl (Nat.le_of_ble_eq_true rfl) ?_
    intro X F E _
    change gF G z0 X cX7_toldOf 2 RX7 wsX7_toldOf (some .int) "toldOf" 6 136 _ _ at F
    show gV G z0 X 0 0 h 0 [(0, .ref m), (1, .int (nI 2))] []
    refine v_iload_n (pc' := 1) F dX7_toldOf_0 rfl (j := 1) rfl rfl ?_
    refine v_iconst (pc' := 2) (v := nI 2) F dX7_toldOf_1 (by decide) rfl ?_
    refine w_icmp_ge (tgt := 11) (pc' := 5) F (by omega) (by omega) dX7_toldOf_2 (by decide) rfl (fun _ => ?_) (fun c0 => absurd c0 (by omega))
    refine v_iload_n (pc' := 12) F dX7_toldOf_11 rfl (j := 1) rfl rfl ?_
    refine v_bipush (pc' := 14) (v := nI 8) F dX7_toldOf_12 (by decide) rfl ?_
    refine w_icmp_ne (tgt := 24) (pc' := 17) F (by omega) (by omega) dX7_toldOf_14 (by decide) rfl (fun _ => ?_) (fun c0 => absurd c0 (by omega))
    refine v_iload_n (pc' := 25) F dX7_toldOf_24 rfl (j := 1) rfl rfl ?_
    refine v_bipush (pc' := 27) (v := nI 9) F dX7_toldOf_25 (by decide) rfl ?_
    refine w_icmp_ne (tgt := 38) (pc' := 30) F (by omega) (by omega) dX7_toldOf_27 (by decide) rfl (fun _ => ?_) (fun c0 => absurd c0 (by omega))
    refine v_aload_n (pc' := 39) F dX7_toldOf_38 rfl (j := 0) rfl rfl ?_
    refine v_iload_n (pc' := 40) F dX7_toldOf_39 rfl (j := 1) rfl rfl ?_
    refine v_callV (pc' := 43) (rt := (some .int)) (mcc := 0) (msc := 0) (As := [.int (nI 2)]) (st := []) F (fun l => c_X7_allOf G z0 l hMS0 hnow w9 hS ⟨by omega, by omega⟩) gX7_toldOf_X7_allOf rfl hv_X7_allOf (by decide) (by decide) hm rfl rfl rfl (Nat.le_of_ble_eq_true rfl) (by omega) (by omega) dX7_toldOf_40 rfl (fun v2 h1 hqc => ?_)
    obtain ⟨rfl, hMA, frA⟩ := hqc
    exact v_iret F E (by omega) (by omega)  dX7_toldOf_43 ⟨rfl, hMA, frA⟩
  · refine gC_of (cc := cX7_toldOf) (nL := 2) (ret := (some .int)) (by decide) rfl (Nat.le_of_ble_eq_true rfl) ?_
    intro X F E _
    change gF G z0 X cX7_toldOf 2 RX7 wsX7_toldOf (some .int) "toldOf" 6 136 _ _ at F
    show gV G z0 X 0 0 h 0 [(0, .ref m), (1, .int (nI 3))] []
    refine v_iload_n (pc' := 1) F dX7_toldOf_0 rfl (j := 1) rfl rfl ?_
    refine v_iconst (pc' := 2) (v := nI 2) F dX7_toldOf_1 (by decide) rfl ?_
    refine w_icmp_ge (tgt := 11) (pc' := 5) F (by omega) (by omega) dX7_toldOf_2 (by decide) rfl (fun _ => ?_) (fun c0 => absurd c0 (by omega))
    refine v_iload_n (pc' := 12) F dX7_toldOf_11 rfl (j := 1) rfl rfl ?_
    refine v_bipush (pc' := 14) (v := nI 8) F dX7_toldOf_12 (by decide) rfl ?_
    refine w_icmp_ne (tgt := 24) (pc' := 17) F (by omega) (by omega) dX7_toldOf_14 (by decide) rfl (fun _ => ?_) (fun c0 => absurd c0 (by omega))
    refine v_iload_n (pc' := 25) F dX7_toldOf_24 rfl (j := 1) rfl rfl ?_
    refine v_bipush (pc' := 27) (v := nI 9) F dX7_toldOf_25 (by decide) rfl ?_
    refine w_icmp_ne (tgt := 38) (pc' := 30) F (by omega) (by omega) dX7_toldOf_27 (by decide) rfl (fun _ => ?_) (fun c0 => absurd c0 (by omega))
    refine v_aload_n (pc' := 39) F dX7_toldOf_38 rfl (j := 0) rfl rfl ?_
    refine v_iload_n (pc' := 40) F dX7_toldOf_39 rfl (j := 1) rfl rfl ?_
    refine v_callV (pc' := 43) (rt := (some .int)) (mcc := 0) (msc := 0) (As := [.int (nI 3)]) (st := []) F (fun l => c_X7_allOf G z0 l hMS0 hnow w9 hS ⟨by omega, by omega⟩) gX7_toldOf_X7_allOf rfl hv_X7_allOf (by decide) (by decide) hm rfl rfl rfl (Nat.le_of_ble_eq_true rfl) (by omega) (by omega) dX7_toldOf_40 rfl (fun v2 h1 hqc => ?_)
    obtain ⟨rfl, hMA, frA⟩ := hqc
    exact v_iret F E (by omega) (by omega)  dX7_toldOf_43 ⟨rfl, hMA, frA⟩
  · refine gC_of (cc := cX7_toldOf) (nL := 2) (ret := (some .int)) (by decide) rfl (Nat.le_of_ble_eq_true rfl) ?_
    intro X F E _
    change gF G z0 X cX7_toldOf 2 RX7 wsX7_toldOf (some .int) "toldOf" 6 136 _ _ at F
    show gV G z0 X 0 0 h 0 [(0, .ref m), (1, .int (nI 4))] []
    refine v_iload_n (pc' := 1) F dX7_toldOf_0 rfl (j := 1) rfl rfl ?_
    refine v_iconst (pc' := 2) (v := nI 2) F dX7_toldOf_1 (by decide) rfl ?_
    refine w_icmp_ge (tgt := 11) (pc' := 5) F (by omega) (by omega) dX7_toldOf_2 (by decide) rfl (fun _ => ?_) (fun c0 => absurd c0 (by omega))
    refine v_iload_n (pc' := 12) F dX7_toldOf_11 rfl (j := 1) rfl rfl ?_
    refine v_bipush (pc' := 14) (v := nI 8) F dX7_toldOf_12 (by decide) rfl ?_
    refine w_icmp_ne (tgt := 24) (pc' := 17) F (by omega) (by omega) dX7_toldOf_14 (by decide) rfl (fun _ => ?_) (fun c0 => absurd c0 (by omega))
    refine v_iload_n (pc' := 25) F dX7_toldOf_24 rfl (j := 1) rfl rfl ?_
    refine v_bipush (pc' := 27) (v := nI 9) F dX7_toldOf_25 (by decide) rfl ?_
    refine w_icmp_ne (tgt := 38) (pc' := 30) F (by omega) (by omega) dX7_toldOf_27 (by decide) rfl (fun _ => ?_) (fun c0 => absurd c0 (by omega))
    refine v_aload_n (pc' := 39) F dX7_toldOf_38 rfl (j := 0) rfl rfl ?_
    refine v_iload_n (pc' := 40) F dX7_toldOf_39 rfl (j := 1) rfl rfl ?_
    refine v_callV (pc' := 43) (rt := (some .int)) (mcc := 0) (msc := 0) (As := [.int (nI 4)]) (st := []) F (fun l => c_X7_allOf G z0 l hMS0 hnow w9 hS ⟨by omega, by omega⟩) gX7_toldOf_X7_allOf rfl hv_X7_allOf (by decide) (by decide) hm rfl rfl rfl (Nat.le_of_ble_eq_true rfl) (by omega) (by omega) dX7_toldOf_40 rfl (fun v2 h1 hqc => ?_)
    obtain ⟨rfl, hMA, frA⟩ := hqc
    exact v_iret F E (by omega) (by omega)  dX7_toldOf_43 ⟨rfl, hMA, frA⟩
  · refine gC_of (cc := cX7_toldOf) (nL := 2) (ret := (some .int)) (by decide) rfl (Nat.le_of_ble_eq_true rfl) ?_
    intro X F E _
    change gF G z0 X cX7_toldOf 2 RX7 wsX7_toldOf (some .int) "toldOf" 6 136 _ _ at F
    show gV G z0 X 0 0 h 0 [(0, .ref m), (1, .int (nI 5))] []
    refine v_iload_n (pc' := 1) F dX7_toldOf_0 rfl (j := 1) rfl rfl ?_
    refine v_iconst (pc' := 2) (v := nI 2) F dX7_toldOf_1 (by decide) rfl ?_
    refine w_icmp_ge (tgt := 11) (pc' := 5) F (by omega) (by omega) dX7_toldOf_2 (by decide) rfl (fun _ => ?_) (fun c0 => absurd c0 (by omega))
    refine v_iload_n (pc' := 12) F dX7_toldOf_11 rfl (j := 1) rfl rfl ?_
    refine v_bipush (pc' := 14) (v := nI 8) F dX7_toldOf_12 (by decide) rfl ?_
    refine w_icmp_ne (tgt := 24) (pc' := 17) F (by omega) (by omega) dX7_toldOf_14 (by decide) rfl (fun _ => ?_) (fun c0 => absurd c0 (by omega))
    refine v_iload_n (pc' := 25) F dX7_toldOf_24 rfl (j := 1) rfl rfl ?_
    refine v_bipush (pc' := 27) (v := nI 9) F dX7_toldOf_25 (by decide) rfl ?_
    refine w_icmp_ne (tgt := 38) (pc' := 30) F (by omega) (by omega) dX7_toldOf_27 (by decide) rfl (fun _ => ?_) (fun c0 => absurd c0 (by omega))
    refine v_aload_n (pc' := 39) F dX7_toldOf_38 rfl (j := 0) rfl rfl ?_
    refine v_iload_n (pc' := 40) F dX7_toldOf_39 rfl (j := 1) rfl rfl ?_
    refine v_callV (pc' := 43) (rt := (some .int)) (mcc := 0) (msc := 0) (As := [.int (nI 5)]) (st := []) F (fun l => c_X7_allOf G z0 l hMS0 hnow w9 hS ⟨by omega, by omega⟩) gX7_toldOf_X7_allOf rfl hv_X7_allOf (by decide) (by decide) hm rfl rfl rfl (Nat.le_of_ble_eq_true rfl) (by omega) (by omega) dX7_toldOf_40 rfl (fun v2 h1 hqc => ?_)
    obtain ⟨rfl, hMA, frA⟩ := hqc
    exact v_iret F E (by omega) (by omega)  dX7_toldOf_43 ⟨rfl, hMA, frA⟩
  · refine gC_of (cc := cX7_toldOf) (nL := 2) (ret := (some .int)) (by decide) rfl (Nat.le_of_ble_eq_true rfl) ?_
    intro X F E _
    change gF G z0 X cX7_toldOf 2 RX7 wsX7_toldOf (some .int) "toldOf" 6 136 _ _ at F
    show gV G z0 X 0 0 h 0 [(0, .ref m), (1, .int (nI 6))] []
    refine v_iload_n (pc' := 1) F dX7_toldOf_0 rfl (j := 1) rfl rfl ?_
    refine v_iconst (pc' := 2) (v := nI 2) F dX7_toldOf_1 (by decide) rfl ?_
    refine w_icmp_ge (tgt := 11) (pc' := 5) F (by omega) (by omega) dX7_toldOf_2 (by decide) rfl (fun _ => ?_) (fun c0 => absurd c0 (by omega))
    refine v_iload_n (pc' := 12) F dX7_toldOf_11 rfl (j := 1) rfl rfl ?_
    refine v_bipush (pc' := 14) (v := nI 8) F dX7_toldOf_12 (by decide) rfl ?_
    refine w_icmp_ne (tgt := 24) (pc' := 17) F (by omega) (by omega) dX7_toldOf_14 (by decide) rfl (fun _ => ?_) (fun c0 => absurd c0 (by omega))
    refine v_iload_n (pc' := 25) F dX7_toldOf_24 rfl (j := 1) rfl rfl ?_
    refine v_bipush (pc' := 27) (v := nI 9) F dX7_toldOf_25 (by decide) rfl ?_
    refine w_icmp_ne (tgt := 38) (pc' := 30) F (by omega) (by omega) dX7_toldOf_27 (by decide) rfl (fun _ => ?_) (fun c0 => absurd c0 (by omega))
    refine v_aload_n (pc' := 39) F dX7_toldOf_38 rfl (j := 0) rfl rfl ?_
    refine v_iload_n (pc' := 40) F dX7_toldOf_39 rfl (j := 1) rfl rfl ?_
    refine v_callV (pc' := 43) (rt := (some .int)) (mcc := 0) (msc := 0) (As := [.int (nI 6)]) (st := []) F (fun l => c_X7_allOf G z0 l hMS0 hnow w9 hS ⟨by omega, by omega⟩) gX7_toldOf_X7_allOf rfl hv_X7_allOf (by decide) (by decide) hm rfl rfl rfl (Nat.le_of_ble_eq_true rfl) (by omega) (by omega) dX7_toldOf_40 rfl (fun v2 h1 hqc => ?_)
    obtain ⟨rfl, hMA, frA⟩ := hqc
    exact v_iret F E (by omega) (by omega)  dX7_toldOf_43 ⟨rfl, hMA, frA⟩
  · refine gC_of (cc := cX7_toldOf) (nL := 2) (ret := (some .int)) (by decide) rfl (Nat.le_of_ble_eq_true rfl) ?_
    intro X F E _
    change gF G z0 X cX7_toldOf 2 RX7 wsX7_toldOf (some .int) "toldOf" 6 136 _ _ at F
    show gV G z0 X 0 0 h 0 [(0, .ref m), (1, .int (nI 7))] []
    refine v_iload_n (pc' := 1) F dX7_toldOf_0 rfl (j := 1) rfl rfl ?_
    refine v_iconst (pc' := 2) (v := nI 2) F dX7_toldOf_1 (by decide) rfl ?_
    refine w_icmp_ge (tgt := 11) (pc' := 5) F (by omega) (by omega) dX7_toldOf_2 (by decide) rfl (fun _ => ?_) (fun c0 => absurd c0 (by omega))
    refine v_iload_n (pc' := 12) F dX7_toldOf_11 rfl (j := 1) rfl rfl ?_
    refine v_bipush (pc' := 14) (v := nI 8) F dX7_toldOf_12 (by decide) rfl ?_
    refine w_icmp_ne (tgt := 24) (pc' := 17) F (by omega) (by omega) dX7_toldOf_14 (by decide) rfl (fun _ => ?_) (fun c0 => absurd c0 (by omega))
    refine v_iload_n (pc' := 25) F dX7_toldOf_24 rfl (j := 1) rfl rfl ?_
    refine v_bipush (pc' := 27) (v := nI 9) F dX7_toldOf_25 (by decide) rfl ?_
    refine w_icmp_ne (tgt := 38) (pc' := 30) F (by omega) (by omega) dX7_toldOf_27 (by decide) rfl (fun _ => ?_) (fun c0 => absurd c0 (by omega))
    refine v_aload_n (pc' := 39) F dX7_toldOf_38 rfl (j := 0) rfl rfl ?_
    refine v_iload_n (pc' := 40) F dX7_toldOf_39 rfl (j := 1) rfl rfl ?_
    refine v_callV (pc' := 43) (rt := (some .int)) (mcc := 0) (msc := 0) (As := [.int (nI 7)]) (st := []) F (fun l => c_X7_allOf G z0 l hMS0 hnow w9 hS ⟨by omega, by omega⟩) gX7_toldOf_X7_allOf rfl hv_X7_allOf (by decide) (by decide) hm rfl rfl rfl (Nat.le_of_ble_eq_true rfl) (by omega) (by omega) dX7_toldOf_40 rfl (fun v2 h1 hqc => ?_)
    obtain ⟨rfl, hMA, frA⟩ := hqc
    exact v_iret F E (by omega) (by omega)  dX7_toldOf_43 ⟨rfl, hMA, frA⟩
theorem k_X7_toldOf_7 : gCl wsX7_toldOf 7 RX7 TX7 26 := ⟨by decide +kernel, rfl⟩
theorem m_X7_toldOf_f58 : Cond.fieldLink RX7 58 "SteadyQueuesModel" "undoable" "I" ∈ wsX7_toldOf := by decide +kernel
set_option maxHeartbeats 4000000 in
set_option maxRecDepth 100000 in
theorem c8_X7_toldOf (G : gG) (z0 : Nat) (l : Launch) {h : gH} {m rows asd vals many way told oth lst text now : Nat} {th und fed len spot fa fat num frm may : Int32} {R : Nat → Int32} (hMS : mS G h m rows asd vals many way told oth lst text th now und fed len spot fa fat num frm may R) : gC G z0 l yX7_toldOf wsX7_toldOf 6 136 [.ref m, .int (nI 8)] h (fun o h' => o = some (.int und) ∧ mS G h' m rows asd vals many way told oth lst text th now und fed len spot fa fat num frm may R ∧ gfr [m, vals, many, way, told, oth, lst] h h') 0 0 := by
  have hMS0 := hMS
  obtain ⟨fl, rl, kd, ok, st, wm, hm, hrows, ⟨V, hvals⟩, ⟨M, hmany⟩, ⟨W, hway⟩, ⟨f, htold⟩, ⟨g, hoth⟩, ⟨ll, hlst⟩, htw, how, hto⟩ := hMS
  refine gC_of (cc := cX7_toldOf) (nL := 2) (ret := (some .int)) (by decide) rfl (Nat.le_of_ble_eq_true rfl) ?_
  intro X F E _
  change gF G z0 X cX7_toldOf 2 RX7 wsX7_toldOf (some .int) "toldOf" 6 136 _ _ at F
  show gV G z0 X 0 0 h 0 [(0, .ref m), (1, .int (nI 8))] []
  refine v_iload_n (pc' := 1) F dX7_toldOf_0 rfl (j := 1) rfl rfl ?_
  refine v_iconst (pc' := 2) (v := nI 2) F dX7_toldOf_1 (by decide) rfl ?_
  refine w_icmp_ge (tgt := 11) (pc' := 5) F (by omega) (by omega) dX7_toldOf_2 (by decide) rfl (fun _ => ?_) (fun c0 => absurd c0 (by omega))
  refine v_iload_n (pc' := 12) F dX7_toldOf_11 rfl (j := 1) rfl rfl ?_
  refine v_bipush (pc' := 14) (v := nI 8) F dX7_toldOf_12 (by decide) rfl ?_
  refine w_icmp_ne (tgt := 24) (pc' := 17) F (by omega) (by omega) dX7_toldOf_14 (by decide) rfl (fun c0 => absurd c0 (by omega)) (fun _ => ?_)
  refine v_aload_n (pc' := 18) F dX7_toldOf_17 rfl (j := 0) rfl rfl ?_
  refine v_getf (pc' := 21) (v := .int und) F k_X7_toldOf_7 hm 4 (by decide) m_X7_toldOf_f58 rfl dX7_toldOf_18 rfl ?_
  refine v_goto (tgt := 43) F dX7_toldOf_21 (by decide) ?_
  exact v_iret F E (by omega) (by omega)  dX7_toldOf_43 ⟨rfl, hMS0, gfr.rf⟩

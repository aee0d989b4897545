theorem LI.o2 {G : gG} {h h' : gH} {x buf rd bks oq rw orw root : Nat} {bk bv t t2 : Nat → Nat} {bl bl2 : Nat} {off off2 : Int32} {cur und und2 k : Nat} {Ds Ds2 : Nat → Dt} {m rows asd vals many way told oth lst text out now : Nat} {g : Nat → Int64} (c : CI G h x buf rd bks oq rw orw root bk bv t bl off cur und k Ds) (mi : MI G h m rows asd vals many way told oth lst text t2 bl2 off2 now und2 Ds2) (ho : h out = some (oL G 1 g)) (f : gfr [out] h h') : CI G h' x buf rd bks oq rw orw root bk bv t bl off cur und k Ds ∧ MI G h' m rows asd vals many way told oth lst text t2 bl2 off2 now und2 Ds2 := by
  obtain ⟨fb, c5, -⟩ := c.2.2.1
  obtain ⟨⟨f2, c9⟩, ⟨f3, c10⟩, -⟩ := c.2.2.2.2.1
  have n1 : out ≠ buf := ne9 ho c5 (by show 10 ≠ 100 + 500; decide)
  have n2 : out ≠ rw := ne9 ho c9 (by show 10 ≠ 100 + 64; decide)
  have n3 : out ≠ orw := ne9 ho c10 (by show 10 ≠ 100 + 64; decide)
  refine ⟨c.fr (S := [out]) (fun s hs => ?_) f, mi.fr (nin (fun s hs a ha => ?_)) f⟩
  · obtain rfl := List.mem_singleton.mp hs
    exact ⟨⟨_, ho, by show 6 < 10; decide, by show 10 ≠ 11; decide⟩, n1, n2, n3⟩
  · obtain rfl := List.mem_singleton.mp hs
    exact mi.no ho (.inr (.inl rfl)) a ha
theorem hd_L_push : yL_push.cls ≠ "java/lang/invoke/MethodHandle" ∧ yL_push.cls ≠ "java/lang/invoke/VarHandle" ∧ (parseMethodDescriptor yL_push.desc).map (fun d => d.parameters.length) = some 4 := by decide +kernel
theorem hv_X7_push : yX7_push.cls = RX7 ∧ yX7_push.cls ≠ "java/lang/invoke/MethodHandle" ∧ yX7_push.cls ≠ "java/lang/invoke/VarHandle" ∧ (parseMethodDescriptor yX7_push.desc).map (fun d => d.parameters.length) = some 2 := by decide +kernel
set_option maxHeartbeats 4000000 in
set_option maxRecDepth 100000 in
theorem op_push {G : gG} {z0 : Nat} {X : gX} {mc ms cells slots i N sb k : Nat} {nm : String} {xs : Nat → Int32} {h : gH} {x buf rd bks oq rw orw root m rows asd vals many way told oth lst text out : Nat} {bk bv : Nat → Nat} (F : gF G z0 X cL_law 9 RL wsL_law (some .boolean) nm 14 526 mc ms) (hst : X.2.1.stackTraces = false) (hSc : gSc z0 X sb N xs) (hN : N ≤ 3072) (hiN : i + 6 ≤ N) (hcc : cells + 1173 ≤ mc) (hss : slots + 14000 ≤ ms) (hk9 : k < 60000) (hL : LI G h x buf rd bks oq rw orw root m rows asd vals many way told oth lst text out bk bv k) (K : ∀ (c9 s9 : Nat) (h' : gH), c9 ≤ cells + 1173 → s9 ≤ slots + 14000 → LI G h' x buf rd bks oq rw orw root m rows asd vals many way told oth lst text out bk bv (k + 1) → gV G z0 X c9 s9 h' 1252 [(4, .int (nI i)), (3, .ref out), (2, .ref m), (1, .ref x), (0, .ref sb)] []) : gV G z0 X cells slots h 989 [(4, .int (nI i)), (3, .ref out), (2, .ref m), (1, .ref x), (0, .ref sb)] [] := by
  obtain ⟨t, bl, off, cur, und, now, Ds, g, hCI, hMI, hAP, ho⟩ := hL
  obtain ⟨hX, ⟨hc, hu, hb5⟩, ⟨fb, hbuf, hft⟩, hRd, hsc, hro, hVr, hring, ⟨hbi, hvi⟩, hDs⟩ := id hCI
  obtain ⟨w9, hdr, ad, as, hcl, hroot⟩ := hCI.now
  have hB := hcl.1
  have hD := hcl.dat w9
  have hn := w9.2.1
  have h1n := w9.1
  have hx6 := hX.1
  obtain ⟨th, len, spot, fa, num, frm, may, R, A, T, hMS, hnow, hasd, htext, hT, hsl⟩ := id hMI
  have hnc : (cur + 1) % 10 < 10 := Nat.mod_lt _ (by omega)
  obtain ⟨n2, pc2, dr2, f2, hb2, hva2, hf0⟩ := hring _ hnc
  have hbb : bk ((cur + 1) % 10) ≠ bk cur := fun z => by have := hbi _ _ hnc hc z; omega
  have hvv : bv ((cur + 1) % 10) ≠ bv cur := fun z => by have := hvi _ _ hnc hc z; omega
  have hoK : ∀ h9 : gH, gfr [x, bk ((cur + 1) % 10), bv ((cur + 1) % 10)] h h9 → h9 out = some (oL G 1 g) := fun h9 f9 => f9 _ _ (gnc (ne9 ho hx6 (by simp [kd9])) (gnc (ne9 ho hb2 (by simp [kd9])) (gnc (ne9 ho hva2 (by simp [kd9])) gn0))) ho
  have hoQ : ∀ h9 : gH, scr G h9 rw orw oq → gfr [rw, orw, oq] h h9 → h9 out = some (oL G 1 g) := fun h9 s9 f9 => (LI.q hCI hMI hAP ho s9 f9).2.2
  obtain ⟨w1, hw1⟩ : ∃ w, xs (i + 1) = w := ⟨_, rfl⟩
  obtain ⟨w2, hw2⟩ : ∃ w, xs (i + 2) = w := ⟨_, rfl⟩
  refine v_aload_n (pc' := 990) F dL_law_989 rfl (j := 3) rfl rfl ?_
  refine v_aload_n (pc' := 991) F dL_law_990 rfl (j := 4) rfl rfl ?_
  refine v_iload (pc' := 993) F dL_law_991  (j := 0) rfl rfl ?_
  refine v_iconst (pc' := 994) (v := nI 1) F dL_law_993 (by decide) rfl ?_
  refine v_iadd (pc' := 995) (v := nI (i + 1)) F dL_law_994 (nI_add i 1) rfl ?_
  refine w_sld (pc' := 996) (j := i + 1) F hSc (by omega) (by omega) hw1 dL_law_995 rfl ?_
  refine v_aload_n (pc' := 997) F dL_law_996 rfl (j := 4) rfl rfl ?_
  refine v_iload (pc' := 999) F dL_law_997  (j := 0) rfl rfl ?_
  refine v_iconst (pc' := 1000) (v := nI 2) F dL_law_999 (by decide) rfl ?_
  refine v_iadd (pc' := 1001) (v := nI (i + 2)) F dL_law_1000 (nI_add i 2) rfl ?_
  refine w_sld (pc' := 1002) (j := i + 2) F hSc (by omega) (by omega) hw2 dL_law_1001 rfl ?_
  refine v_aload_n (pc' := 1003) F dL_law_1002 rfl (j := 1) rfl rfl ?_
  refine v_callSH (pc' := 1006) (rt := (some .int)) (hh := [(0, 10, 13, 22), (0, 10, 17, 13), (0, 10, 21, 55)]) (mcc := 13) (msc := 45) (As := [.ref x, .int w1, .int w2, .ref out]) (st := []) F hst (fun l hst => c_L_push G z0 l hst w1 w2 hx6 ho (fun l hst => c_X6_push G z0 l hst w1 w2 hX hc hu hn hB hD hro hsc hbb hvv ⟨hb2, f2, hva2⟩ ⟨w9.2.2.1, w9.2.2.2.1⟩) (fun v h9 hq => by obtain ⟨j, kk, hj, hk, ew1, ew2, hn9, w8, hv, hw8, hX1, hB1, hV1, f1⟩ := hq; exact ⟨⟨_, hv⟩, hoK _ f1⟩) (fun E h9 hq => by rcases hq.1 with z | z | z; exact .inl z.1; exact .inr (.inl z.1); exact .inr (.inr z.1))) gL_law_L_push rfl hd_L_push (by decide) (by decide) rfl rfl (Nat.le_of_ble_eq_true rfl) (by omega) (by omega) dL_law_1003 rfl (fun v9 h9 hq => ?_)
  rcases hq with ⟨k9, h1, hq1, rfl, g9, hgo, hg0, fO⟩ | ⟨E9, kc, hx1, rfl, hec⟩
  · obtain ⟨j, kk, hj, hk, ew1, ew2, hn9, w8, hv, hw8, hX1, hB1, hV1, f1⟩ := hq1
    subst ew1
    subst ew2
    obtain rfl := Value.int.inj (Option.some.inj hv)
    have fC : gfr [x, rd, bk ((cur + 1) % 10), bv ((cur + 1) % 10)] h h1 := gfr.mono f1 (by intro q9 z9 m9; apply z9; simp only [List.mem_cons, List.not_mem_nil, or_false] at m9 ⊢; omega)
    have gp1 : gpv h h1 := gfr.pv f1 (by
      intro a9 m9 ci9 fs9 c9 z9
      simp only [List.mem_cons, List.not_mem_nil, or_false] at m9
      rcases m9 with rfl | rfl | rfl
      · rw [hx6] at z9; cases z9; omega
      · rw [hb2] at z9; cases z9; omega
      · rw [hva2] at z9; cases z9)
    have hrd1 : rdI h1 rd := by
      obtain ⟨o9, e9, l9, tx, bk9, at9, st9, kd9_, nu9, may9, z7, z8⟩ := hRd
      exact ⟨o9, e9, l9, tx, bk9, at9, st9, kd9_, nu9, may9, z7, f1 _ _ (gnc (ne9 z8 hx6 (by simp [kd9])) (gnc (ne9 z8 hb2 (by simp [kd9])) (gnc (ne9 z8 hva2 (by simp [kd9])) gn0))) z8⟩
    have ho1 := hoK _ f1
    have hwk : wOk ((nI kk, (Ds 0).2.1) :: (Ds 0).2.2.2.2 j) := ⟨(w9.os hj).1, w9.2.2.1, w9.2.2.2.1, fun z => absurd z (nI_m1 hk), fun _ => ⟨kk, hk, rfl⟩⟩
    have hcl1 := cl_add w9 hcl hj hw8 hB1 hV1 gp1
    have hr1 : va_up ad (Ds 0).1 w8 0 = root := by unfold va_up; rw [if_neg (by omega)]; exact hroot
    have hC1 := hCI.chg fC hrd1 (w9.add hn9 hj hwk) hcl1 hr1 hX1 (Nat.le_refl _) (Nat.le_succ_of_le hdr)
    have hM1 := hMI.fr (nin (fun s9 hs9 a9 ha9 => by
      simp only [List.mem_cons, List.not_mem_nil, or_false] at hs9
      rcases hs9 with rfl | rfl | rfl
      · exact hMI.no hx6 (.inl (by show 6 < 7; decide)) a9 ha9
      · exact hMI.no hb2 (.inl (by show 0 < 7; decide)) a9 ha9
      · exact hMI.no hva2 (.inr (.inr rfl)) a9 ha9)) f1
    obtain ⟨hC2, hM2⟩ := LI.o2 hC1 hM1 ho1 fO
    obtain ⟨th2, len2, spot2, fa2, num2, frm2, may2, R2, A2, T2, hMS2, hnow2, hasd2, htext2, hT2, hsl2⟩ := id hM2
    have hS2 : slD R2 (330 * now) (Ds 0) := by have h0 := hsl2 0 (Nat.zero_le _); rwa [show (now + 9 - 0) % 9 = now by omega] at h0
    obtain ⟨_, _, _, _, _, _, hm2, -⟩ := id hMS2
    refine v_istore (pc' := 1008) (i := 5) (L' := [(5, .int (nI 0)), (4, .int (nI i)), (3, .ref out), (2, .ref m), (1, .ref x), (0, .ref sb)]) F dL_law_1006  (by decide) rfl rfl ?_
    refine v_aload_n (pc' := 1009) F dL_law_1008 rfl (j := 3) rfl rfl ?_
    refine v_aload_n (pc' := 1010) F dL_law_1009 rfl (j := 5) rfl rfl ?_
    refine v_iload (pc' := 1012) F dL_law_1010  (j := 1) rfl rfl ?_
    refine v_iconst (pc' := 1013) (v := nI 1) F dL_law_1012 (by decide) rfl ?_
    refine v_iadd (pc' := 1014) (v := nI (i + 1)) F dL_law_1013 (nI_add i 1) rfl ?_
    refine w_sld (pc' := 1015) (j := i + 1) F hSc (by omega) (by omega) hw1 dL_law_1014 rfl ?_
    refine v_aload_n (pc' := 1016) F dL_law_1015 rfl (j := 5) rfl rfl ?_
    refine v_iload (pc' := 1018) F dL_law_1016  (j := 1) rfl rfl ?_
    refine v_iconst (pc' := 1019) (v := nI 2) F dL_law_1018 (by decide) rfl ?_
    refine v_iadd (pc' := 1020) (v := nI (i + 2)) F dL_law_1019 (nI_add i 2) rfl ?_
    refine w_sld (pc' := 1021) (j := i + 2) F hSc (by omega) (by omega) hw2 dL_law_1020 rfl ?_
    refine v_callV (pc' := 1024) (rt := (some .int)) (mcc := 0) (msc := 0) (As := [.int (nI j), .int (nI kk)]) (st := []) F (fun l => c_X7_push G z0 l hMS2 hnow2 w9 hS2 hu hj hk hn9) gL_law_X7_push rfl hv_X7_push (by decide) (by decide) hm2 rfl rfl rfl (Nat.le_of_ble_eq_true rfl) (by omega) (by omega) dL_law_1021 rfl (fun v2 h1 hqm => ?_)
    obtain ⟨rfl, RN, hMS3, hSN, hON, fQ⟩ := hqm
    obtain ⟨hC3, ho3⟩ := LI.m2 hC2 hM2 hAP hgo (sub_c m rows asd vals many way told oth lst text) fQ
    obtain ⟨ha3, ht3⟩ := mS.atC hMS2 hasd2 htext2 fQ
    obtain ⟨_, _, _, _, _, _, hm3, -⟩ := id hMS3
    refine v_istore (pc' := 1026) (i := 6) (L' := [(6, .int (nI (Ds 0).1)), (5, .int (nI 0)), (4, .int (nI i)), (3, .ref out), (2, .ref m), (1, .ref x), (0, .ref sb)]) F dL_law_1024  (by decide) rfl rfl ?_
    refine v_aload_n (pc' := 1027) F dL_law_1026 rfl (j := 4) rfl rfl ?_
    refine v_callV (pc' := 1030) (rt := (some .int)) (mcc := 0) (msc := 0) (As := []) (st := []) F (fun l => c_X7_thrown G z0 l hm3) gL_law_X7_thrown rfl hv_X7_thrown (by decide) (by decide) hm3 rfl rfl rfl (Nat.le_of_ble_eq_true rfl) (by omega) (by omega) dL_law_1027 rfl (fun v3 h1 hqt => ?_)
    obtain ⟨rfl, rfl⟩ := hqt
    refine v_iload (pc' := 1032) F dL_law_1030  (j := 1) rfl rfl ?_
    refine w_icmp_eq (tgt := 1037) (pc' := 1035) F (by omega) (by omega) dL_law_1032 (by decide) rfl (fun _ => ?_) (fun c0 => absurd c0 (by omega))
    refine v_iload (pc' := 1039) F dL_law_1037  (j := 1) rfl rfl ?_
    refine w_if_ne (tgt := 1054) (pc' := 1042) F (by omega) dL_law_1039 (by decide) rfl (fun c0 => absurd c0 (by omega)) (fun _ => ?_)
    refine v_aload_n (pc' := 1043) F dL_law_1042 rfl (j := 3) rfl rfl ?_
    refine v_iconst (pc' := 1044) (v := nI 0) F dL_law_1043 (by decide) rfl ?_
    refine w_lald (pc' := 1045) (v := (nI (Ds 0).1).toInt64) F ho3 (by omega) (by omega) hg0 dL_law_1044 rfl ?_
    refine v_iload (pc' := 1047) F dL_law_1045  (j := 0) rfl rfl ?_
    refine v_i2l (pc' := 1048) (v := (nI (Ds 0).1).toInt64) F dL_law_1047 rfl rfl ?_
    refine v_lcmp (pc' := 1049) F dL_law_1048 rfl ?_
    refine v_if_eq (tgt := 1054) (pc' := 1052) F dL_law_1049 (by decide) rfl (fun _ => ?_) (fun c0 => absurd (lg_self _) c0)
    refine v_goto (tgt := 1252) F dL_law_1054 (by decide) ?_
    refine v_sub (L' := [(4, .int (nI i)), (3, .ref out), (2, .ref m), (1, .ref x), (0, .ref sb)]) [2, 3, 4, 5, 6] rfl ?_
    exact K _ _ _ (by omega) (by omega) ⟨t, bl, off, _, _, ((now + 1) % 9), _, g9, hC3, ⟨_, len2, spot2, fa2, num2, frm2, may2, RN, A2, T2, hMS3, Nat.mod_lt _ (by omega), ha3, ht3, hT2, sl_chg hnow2 (fun i hi => (hDs i hi).1) hsl2 hSN hON⟩, hAP, ho3⟩
  · obtain ⟨hP9, hs1, f1⟩ := hx1
    obtain ⟨hC1, hM1, ho1⟩ := LI.q hCI hMI hAP ho hs1 f1
    rcases hP9 with ⟨rfl, hno⟩ | ⟨rfl, ⟨j, hj, ew1⟩, hno⟩ | ⟨rfl, ⟨j, hj, ew1⟩, ⟨kk, hk, ew2⟩, hno⟩
    · have hkc : kc = 1 := by rw [← hec]; decide
      subst hkc
      obtain ⟨th2, len2, spot2, fa2, num2, frm2, may2, R2, A2, T2, hMS2, hnow2, hasd2, htext2, hT2, hsl2⟩ := id hM1
      have hS2 : slD R2 (330 * now) (Ds 0) := by have h0 := hsl2 0 (Nat.zero_le _); rwa [show (now + 9 - 0) % 9 = now by omega] at h0
      obtain ⟨_, _, _, _, _, _, hm2, -⟩ := id hMS2
      refine v_istore (pc' := 1008) (i := 5) (L' := [(5, .int (nI 1)), (4, .int (nI i)), (3, .ref out), (2, .ref m), (1, .ref x), (0, .ref sb)]) F dL_law_1006  (by decide) rfl rfl ?_
      refine v_aload_n (pc' := 1009) F dL_law_1008 rfl (j := 3) rfl rfl ?_
      refine v_aload_n (pc' := 1010) F dL_law_1009 rfl (j := 5) rfl rfl ?_
      refine v_iload (pc' := 1012) F dL_law_1010  (j := 1) rfl rfl ?_
      refine v_iconst (pc' := 1013) (v := nI 1) F dL_law_1012 (by decide) rfl ?_
      refine v_iadd (pc' := 1014) (v := nI (i + 1)) F dL_law_1013 (nI_add i 1) rfl ?_
      refine w_sld (pc' := 1015) (j := i + 1) F hSc (by omega) (by omega) hw1 dL_law_1014 rfl ?_
      refine v_aload_n (pc' := 1016) F dL_law_1015 rfl (j := 5) rfl rfl ?_
      refine v_iload (pc' := 1018) F dL_law_1016  (j := 1) rfl rfl ?_
      refine v_iconst (pc' := 1019) (v := nI 2) F dL_law_1018 (by decide) rfl ?_
      refine v_iadd (pc' := 1020) (v := nI (i + 2)) F dL_law_1019 (nI_add i 2) rfl ?_
      refine w_sld (pc' := 1021) (j := i + 2) F hSc (by omega) (by omega) hw2 dL_law_1020 rfl ?_
      refine v_callV (pc' := 1024) (rt := (some .int)) (mcc := 0) (msc := 0) (As := [.int w1, .int w2]) (st := []) F (fun l => o1_X7_push G z0 l hMS2 hnow2 w9 hS2 w1 w2 hno) gL_law_X7_push rfl hv_X7_push (by decide) (by decide) hm2 rfl rfl rfl (Nat.le_of_ble_eq_true rfl) (by omega) (by omega) dL_law_1021 rfl (fun v5 h4 hqm => ?_)
      obtain ⟨⟨y9, rfl⟩, hMS3, fQ⟩ := hqm
      obtain ⟨hC3, ho3⟩ := LI.m hC1 hM1 hAP ho1 (sub_q m rows asd vals many way told oth lst text) fQ
      obtain ⟨ha3, ht3⟩ := mS.at hMS2 hasd2 htext2 fQ
      obtain ⟨_, _, _, _, _, _, hm3, -⟩ := id hMS3
      refine v_istore (pc' := 1026) (i := 6) (L' := [(6, .int y9), (5, .int (nI 1)), (4, .int (nI i)), (3, .ref out), (2, .ref m), (1, .ref x), (0, .ref sb)]) F dL_law_1024  (by decide) rfl rfl ?_
      refine v_aload_n (pc' := 1027) F dL_law_1026 rfl (j := 4) rfl rfl ?_
      refine v_callV (pc' := 1030) (rt := (some .int)) (mcc := 0) (msc := 0) (As := []) (st := []) F (fun l => c_X7_thrown G z0 l hm3) gL_law_X7_thrown rfl hv_X7_thrown (by decide) (by decide) hm3 rfl rfl rfl (Nat.le_of_ble_eq_true rfl) (by omega) (by omega) dL_law_1027 rfl (fun v6 h4 hqt => ?_)
      obtain ⟨rfl, rfl⟩ := hqt
      refine v_iload (pc' := 1032) F dL_law_1030  (j := 1) rfl rfl ?_
      refine w_icmp_eq (tgt := 1037) (pc' := 1035) F (by omega) (by omega) dL_law_1032 (by decide) rfl (fun _ => ?_) (fun c0 => absurd c0 (by omega))
      refine v_iload (pc' := 1039) F dL_law_1037  (j := 1) rfl rfl ?_
      refine w_if_ne (tgt := 1054) (pc' := 1042) F (by omega) dL_law_1039 (by decide) rfl (fun _ => ?_) (fun c0 => absurd c0 (by omega))
      refine v_goto (tgt := 1252) F dL_law_1054 (by decide) ?_
      refine v_sub (L' := [(4, .int (nI i)), (3, .ref out), (2, .ref m), (1, .ref x), (0, .ref sb)]) [2, 3, 4, 5, 6] rfl ?_
      exact K _ _ _ (by omega) (by omega) ⟨t, bl, off, cur, und, now, Ds, g, hC3.more, ⟨_, len2, spot2, fa2, num2, frm2, may2, R2, A2, T2, hMS3, hnow2, ha3, ht3, hT2, hsl2⟩, hAP, ho3⟩
    · have hkc : kc = 2 := by rw [← hec]; decide
      subst hkc
      subst ew1
      obtain ⟨th2, len2, spot2, fa2, num2, frm2, may2, R2, A2, T2, hMS2, hnow2, hasd2, htext2, hT2, hsl2⟩ := id hM1
      have hS2 : slD R2 (330 * now) (Ds 0) := by have h0 := hsl2 0 (Nat.zero_le _); rwa [show (now + 9 - 0) % 9 = now by omega] at h0
      obtain ⟨_, _, _, _, _, _, hm2, -⟩ := id hMS2
      refine v_istore (pc' := 1008) (i := 5) (L' := [(5, .int (nI 2)), (4, .int (nI i)), (3, .ref out), (2, .ref m), (1, .ref x), (0, .ref sb)]) F dL_law_1006  (by decide) rfl rfl ?_
      refine v_aload_n (pc' := 1009) F dL_law_1008 rfl (j := 3) rfl rfl ?_
      refine v_aload_n (pc' := 1010) F dL_law_1009 rfl (j := 5) rfl rfl ?_
      refine v_iload (pc' := 1012) F dL_law_1010  (j := 1) rfl rfl ?_
      refine v_iconst (pc' := 1013) (v := nI 1) F dL_law_1012 (by decide) rfl ?_
      refine v_iadd (pc' := 1014) (v := nI (i + 1)) F dL_law_1013 (nI_add i 1) rfl ?_
      refine w_sld (pc' := 1015) (j := i + 1) F hSc (by omega) (by omega) hw1 dL_law_1014 rfl ?_
      refine v_aload_n (pc' := 1016) F dL_law_1015 rfl (j := 5) rfl rfl ?_
      refine v_iload (pc' := 1018) F dL_law_1016  (j := 1) rfl rfl ?_
      refine v_iconst (pc' := 1019) (v := nI 2) F dL_law_1018 (by decide) rfl ?_
      refine v_iadd (pc' := 1020) (v := nI (i + 2)) F dL_law_1019 (nI_add i 2) rfl ?_
      refine w_sld (pc' := 1021) (j := i + 2) F hSc (by omega) (by omega) hw2 dL_law_1020 rfl ?_
      refine v_callV (pc' := 1024) (rt := (some .int)) (mcc := 0) (msc := 0) (As := [.int (nI j), .int w2]) (st := []) F (fun l => o2_X7_push G z0 l hMS2 hnow2 w9 hS2 w2 hj hno) gL_law_X7_push rfl hv_X7_push (by decide) (by decide) hm2 rfl rfl rfl (Nat.le_of_ble_eq_true rfl) (by omega) (by omega) dL_law_1021 rfl (fun v8 h7 hqm => ?_)
      obtain ⟨⟨y9, rfl⟩, hMS3, fQ⟩ := hqm
      obtain ⟨hC3, ho3⟩ := LI.m hC1 hM1 hAP ho1 (sub_q m rows asd vals many way told oth lst text) fQ
      obtain ⟨ha3, ht3⟩ := mS.at hMS2 hasd2 htext2 fQ
      obtain ⟨_, _, _, _, _, _, hm3, -⟩ := id hMS3
      refine v_istore (pc' := 1026) (i := 6) (L' := [(6, .int y9), (5, .int (nI 2)), (4, .int (nI i)), (3, .ref out), (2, .ref m), (1, .ref x), (0, .ref sb)]) F dL_law_1024  (by decide) rfl rfl ?_
      refine v_aload_n (pc' := 1027) F dL_law_1026 rfl (j := 4) rfl rfl ?_
      refine v_callV (pc' := 1030) (rt := (some .int)) (mcc := 0) (msc := 0) (As := []) (st := []) F (fun l => c_X7_thrown G z0 l hm3) gL_law_X7_thrown rfl hv_X7_thrown (by decide) (by decide) hm3 rfl rfl rfl (Nat.le_of_ble_eq_true rfl) (by omega) (by omega) dL_law_1027 rfl (fun v9 h7 hqt => ?_)
      obtain ⟨rfl, rfl⟩ := hqt
      refine v_iload (pc' := 1032) F dL_law_1030  (j := 1) rfl rfl ?_
      refine w_icmp_eq (tgt := 1037) (pc' := 1035) F (by omega) (by omega) dL_law_1032 (by decide) rfl (fun _ => ?_) (fun c0 => absurd c0 (by omega))
      refine v_iload (pc' := 1039) F dL_law_1037  (j := 1) rfl rfl ?_
      refine w_if_ne (tgt := 1054) (pc' := 1042) F (by omega) dL_law_1039 (by decide) rfl (fun _ => ?_) (fun c0 => absurd c0 (by omega))
      refine v_goto (tgt := 1252) F dL_law_1054 (by decide) ?_
      refine v_sub (L' := [(4, .int (nI i)), (3, .ref out), (2, .ref m), (1, .ref x), (0, .ref sb)]) [2, 3, 4, 5, 6] rfl ?_
      exact K _ _ _ (by omega) (by omega) ⟨t, bl, off, cur, und, now, Ds, g, hC3.more, ⟨_, len2, spot2, fa2, num2, frm2, may2, R2, A2, T2, hMS3, hnow2, ha3, ht3, hT2, hsl2⟩, hAP, ho3⟩
    · have hkc : kc = 3 := by rw [← hec]; decide
      subst hkc
      subst ew1 ew2
      obtain ⟨th2, len2, spot2, fa2, num2, frm2, may2, R2, A2, T2, hMS2, hnow2, hasd2, htext2, hT2, hsl2⟩ := id hM1
      have hS2 : slD R2 (330 * now) (Ds 0) := by have h0 := hsl2 0 (Nat.zero_le _); rwa [show (now + 9 - 0) % 9 = now by omega] at h0
      obtain ⟨_, _, _, _, _, _, hm2, -⟩ := id hMS2
      refine v_istore (pc' := 1008) (i := 5) (L' := [(5, .int (nI 3)), (4, .int (nI i)), (3, .ref out), (2, .ref m), (1, .ref x), (0, .ref sb)]) F dL_law_1006  (by decide) rfl rfl ?_
      refine v_aload_n (pc' := 1009) F dL_law_1008 rfl (j := 3) rfl rfl ?_
      refine v_aload_n (pc' := 1010) F dL_law_1009 rfl (j := 5) rfl rfl ?_
      refine v_iload (pc' := 1012) F dL_law_1010  (j := 1) rfl rfl ?_
      refine v_iconst (pc' := 1013) (v := nI 1) F dL_law_1012 (by decide) rfl ?_
      refine v_iadd (pc' := 1014) (v := nI (i + 1)) F dL_law_1013 (nI_add i 1) rfl ?_
      refine w_sld (pc' := 1015) (j := i + 1) F hSc (by omega) (by omega) hw1 dL_law_1014 rfl ?_
      refine v_aload_n (pc' := 1016) F dL_law_1015 rfl (j := 5) rfl rfl ?_
      refine v_iload (pc' := 1018) F dL_law_1016  (j := 1) rfl rfl ?_
      refine v_iconst (pc' := 1019) (v := nI 2) F dL_law_1018 (by decide) rfl ?_
      refine v_iadd (pc' := 1020) (v := nI (i + 2)) F dL_law_1019 (nI_add i 2) rfl ?_
      refine w_sld (pc' := 1021) (j := i + 2) F hSc (by omega) (by omega) hw2 dL_law_1020 rfl ?_
      refine v_callV (pc' := 1024) (rt := (some .int)) (mcc := 0) (msc := 0) (As := [.int (nI j), .int (nI kk)]) (st := []) F (fun l => o3_X7_push G z0 l hMS2 hnow2 w9 hS2 hj hk hno) gL_law_X7_push rfl hv_X7_push (by decide) (by decide) hm2 rfl rfl rfl (Nat.le_of_ble_eq_true rfl) (by omega) (by omega) dL_law_1021 rfl (fun v11 h10 hqm => ?_)
      obtain ⟨⟨y9, rfl⟩, hMS3, fQ⟩ := hqm
      obtain ⟨hC3, ho3⟩ := LI.m hC1 hM1 hAP ho1 (sub_q m rows asd vals many way told oth lst text) fQ
      obtain ⟨ha3, ht3⟩ := mS.at hMS2 hasd2 htext2 fQ
      obtain ⟨_, _, _, _, _, _, hm3, -⟩ := id hMS3
      refine v_istore (pc' := 1026) (i := 6) (L' := [(6, .int y9), (5, .int (nI 3)), (4, .int (nI i)), (3, .ref out), (2, .ref m), (1, .ref x), (0, .ref sb)]) F dL_law_1024  (by decide) rfl rfl ?_
      refine v_aload_n (pc' := 1027) F dL_law_1026 rfl (j := 4) rfl rfl ?_
      refine v_callV (pc' := 1030) (rt := (some .int)) (mcc := 0) (msc := 0) (As := []) (st := []) F (fun l => c_X7_thrown G z0 l hm3) gL_law_X7_thrown rfl hv_X7_thrown (by decide) (by decide) hm3 rfl rfl rfl (Nat.le_of_ble_eq_true rfl) (by omega) (by omega) dL_law_1027 rfl (fun v12 h10 hqt => ?_)
      obtain ⟨rfl, rfl⟩ := hqt
      refine v_iload (pc' := 1032) F dL_law_1030  (j := 1) rfl rfl ?_
      refine w_icmp_eq (tgt := 1037) (pc' := 1035) F (by omega) (by omega) dL_law_1032 (by decide) rfl (fun _ => ?_) (fun c0 => absurd c0 (by omega))
      refine v_iload (pc' := 1039) F dL_law_1037  (j := 1) rfl rfl ?_
      refine w_if_ne (tgt := 1054) (pc' := 1042) F (by omega) dL_law_1039 (by decide) rfl (fun _ => ?_) (fun c0 => absurd c0 (by omega))
      refine v_goto (tgt := 1252) F dL_law_1054 (by decide) ?_
      refine v_sub (L' := [(4, .int (nI i)), (3, .ref out), (2, .ref m), (1, .ref x), (0, .ref sb)]) [2, 3, 4, 5, 6] rfl ?_
      exact K _ _ _ (by omega) (by omega) ⟨t, bl, off, cur, und, now, Ds, g, hC3.more, ⟨_, len2, spot2, fa2, num2, frm2, may2, R2, A2, T2, hMS3, hnow2, ha3, ht3, hT2, hsl2⟩, hAP, ho3⟩
theorem hd_L_pop : yL_pop.cls ≠ "java/lang/invoke/MethodHandle" ∧ yL_pop.cls ≠ "java/lang/invoke/VarHandle" ∧ (parseMethodDescriptor yL_pop.desc).map (fun d => d.parameters.length) = some 3 := by decide +kernel
theorem hv_X7_pop : yX7_pop.cls = RX7 ∧ yX7_pop.cls ≠ "java/lang/invoke/MethodHandle" ∧ yX7_pop.cls ≠ "java/lang/invoke/VarHandle" ∧ (parseMethodDescriptor yX7_pop.desc).map (fun d => d.parameters.length) = some 1 := by decide +kernel
set_option maxHeartbeats 4000000 in
set_option maxRecDepth 100000 in
theorem op_pop {G : gG} {z0 : Nat} {X : gX} {mc ms cells slots i N sb k : Nat} {nm : String} {xs : Nat → Int32} {h : gH} {x buf rd bks oq rw orw root m rows asd vals many way told oth lst text out : Nat} {bk bv : Nat → Nat} (F : gF G z0 X cL_law 9 RL wsL_law (some .boolean) nm 14 526 mc ms) (hst : X.2.1.stackTraces = false) (hSc : gSc z0 X sb N xs) (hN : N ≤ 3072) (hiN : i + 6 ≤ N) (hcc : cells + 1173 ≤ mc) (hss : slots + 14000 ≤ ms) (hk9 : k < 60000) (hL : LI G h x buf rd bks oq rw orw root m rows asd vals many way told oth lst text out bk bv k) (K : ∀ (c9 s9 : Nat) (h' : gH), c9 ≤ cells + 1173 → s9 ≤ slots + 14000 → LI G h' x buf rd bks oq rw orw root m rows asd vals many way told oth lst text out bk bv (k + 1) → gV G z0 X c9 s9 h' 1252 [(4, .int (nI i)), (3, .ref out), (2, .ref m), (1, .ref x), (0, .ref sb)] []) : gV G z0 X cells slots h 1057 [(4, .int (nI i)), (3, .ref out), (2, .ref m), (1, .ref x), (0, .ref sb)] [] := by
  obtain ⟨t, bl, off, cur, und, now, Ds, g, hCI, hMI, hAP, ho⟩ := hL
  obtain ⟨hX, ⟨hc, hu, hb5⟩, ⟨fb, hbuf, hft⟩, hRd, hsc, hro, hVr, hring, ⟨hbi, hvi⟩, hDs⟩ := id hCI
  obtain ⟨w9, hdr, ad, as, hcl, hroot⟩ := hCI.now
  have hB := hcl.1
  have hD := hcl.dat w9
  have hn := w9.2.1
  have h1n := w9.1
  have hx6 := hX.1
  obtain ⟨th, len, spot, fa, num, frm, may, R, A, T, hMS, hnow, hasd, htext, hT, hsl⟩ := id hMI
  have hnc : (cur + 1) % 10 < 10 := Nat.mod_lt _ (by omega)
  obtain ⟨n2, pc2, dr2, f2, hb2, hva2, hf0⟩ := hring _ hnc
  have hbb : bk ((cur + 1) % 10) ≠ bk cur := fun z => by have := hbi _ _ hnc hc z; omega
  have hvv : bv ((cur + 1) % 10) ≠ bv cur := fun z => by have := hvi _ _ hnc hc z; omega
  have hoK : ∀ h9 : gH, gfr [x, bk ((cur + 1) % 10), bv ((cur + 1) % 10)] h h9 → h9 out = some (oL G 1 g) := fun h9 f9 => f9 _ _ (gnc (ne9 ho hx6 (by simp [kd9])) (gnc (ne9 ho hb2 (by simp [kd9])) (gnc (ne9 ho hva2 (by simp [kd9])) gn0))) ho
  have hoQ : ∀ h9 : gH, scr G h9 rw orw oq → gfr [rw, orw, oq] h h9 → h9 out = some (oL G 1 g) := fun h9 s9 f9 => (LI.q hCI hMI hAP ho s9 f9).2.2
  obtain ⟨w1, hw1⟩ : ∃ w, xs (i + 1) = w := ⟨_, rfl⟩
  refine v_aload_n (pc' := 1058) F dL_law_1057 rfl (j := 3) rfl rfl ?_
  refine v_aload_n (pc' := 1059) F dL_law_1058 rfl (j := 4) rfl rfl ?_
  refine v_iload (pc' := 1061) F dL_law_1059  (j := 0) rfl rfl ?_
  refine v_iconst (pc' := 1062) (v := nI 1) F dL_law_1061 (by decide) rfl ?_
  refine v_iadd (pc' := 1063) (v := nI (i + 1)) F dL_law_1062 (nI_add i 1) rfl ?_
  refine w_sld (pc' := 1064) (j := i + 1) F hSc (by omega) (by omega) hw1 dL_law_1063 rfl ?_
  refine v_aload_n (pc' := 1065) F dL_law_1064 rfl (j := 1) rfl rfl ?_
  refine v_callSH (pc' := 1068) (rt := (some .int)) (hh := [(0, 9, 12, 22), (0, 9, 15, 55)]) (mcc := 13) (msc := 45) (As := [.ref x, .int w1, .ref out]) (st := []) F hst (fun l hst => c_L_pop G z0 l hst w1 hx6 ho (fun l hst => c_X6_pop G z0 l hst w1 hX hc hu hn hB hD hro hsc hbb hvv ⟨hb2, f2, hva2⟩ ⟨w9.2.2.1, w9.2.2.2.1⟩) (fun v h9 hq => by obtain ⟨j, hj, ew1, hne, hn9, w8, hv, hw8, hX1, hB1, hV1, f1⟩ := hq; exact ⟨⟨_, hv⟩, hoK _ f1⟩) (fun E h9 hq => by rcases hq.1 with z | z; exact .inl z.1; exact .inr z.1)) gL_law_L_pop rfl hd_L_pop (by decide) (by decide) rfl rfl (Nat.le_of_ble_eq_true rfl) (by omega) (by omega) dL_law_1065 rfl (fun v9 h9 hq => ?_)
  rcases hq with ⟨k9, h1, hq1, rfl, g9, hgo, hg0, fO⟩ | ⟨E9, kc, hx1, rfl, hec⟩
  · obtain ⟨j, hj, ew1, hne, hn9, w8, hv, hw8, hX1, hB1, hV1, f1⟩ := hq1
    subst ew1
    obtain rfl := Value.int.inj (Option.some.inj hv)
    have fC : gfr [x, rd, bk ((cur + 1) % 10), bv ((cur + 1) % 10)] h h1 := gfr.mono f1 (by intro q9 z9 m9; apply z9; simp only [List.mem_cons, List.not_mem_nil, or_false] at m9 ⊢; omega)
    have gp1 : gpv h h1 := gfr.pv f1 (by
      intro a9 m9 ci9 fs9 c9 z9
      simp only [List.mem_cons, List.not_mem_nil, or_false] at m9
      rcases m9 with rfl | rfl | rfl
      · rw [hx6] at z9; cases z9; omega
      · rw [hb2] at z9; cases z9; omega
      · rw [hva2] at z9; cases z9)
    have hrd1 : rdI h1 rd := by
      obtain ⟨o9, e9, l9, tx, bk9, at9, st9, kd9_, nu9, may9, z7, z8⟩ := hRd
      exact ⟨o9, e9, l9, tx, bk9, at9, st9, kd9_, nu9, may9, z7, f1 _ _ (gnc (ne9 z8 hx6 (by simp [kd9])) (gnc (ne9 z8 hb2 (by simp [kd9])) (gnc (ne9 z8 hva2 (by simp [kd9])) gn0))) z8⟩
    have ho1 := hoK _ f1
    have hwk : wOk ((-1, (Ds 0).2.1) :: (Ds 0).2.2.2.2 j) := ⟨(w9.os hj).1, w9.2.2.1, w9.2.2.2.1, fun _ => hne, fun z => absurd rfl z⟩
    have hcl1 := cl_add w9 hcl hj hw8 hB1 hV1 gp1
    have hr1 : va_up ad (Ds 0).1 w8 0 = root := by unfold va_up; rw [if_neg (by omega)]; exact hroot
    have hC1 := hCI.chg fC hrd1 (w9.add hn9 hj hwk) hcl1 hr1 hX1 (Nat.le_refl _) (Nat.le_succ_of_le hdr)
    have hM1 := hMI.fr (nin (fun s9 hs9 a9 ha9 => by
      simp only [List.mem_cons, List.not_mem_nil, or_false] at hs9
      rcases hs9 with rfl | rfl | rfl
      · exact hMI.no hx6 (.inl (by show 6 < 7; decide)) a9 ha9
      · exact hMI.no hb2 (.inl (by show 0 < 7; decide)) a9 ha9
      · exact hMI.no hva2 (.inr (.inr rfl)) a9 ha9)) f1
    obtain ⟨hC2, hM2⟩ := LI.o2 hC1 hM1 ho1 fO
    obtain ⟨th2, len2, spot2, fa2, num2, frm2, may2, R2, A2, T2, hMS2, hnow2, hasd2, htext2, hT2, hsl2⟩ := id hM2
    have hS2 : slD R2 (330 * now) (Ds 0) := by have h0 := hsl2 0 (Nat.zero_le _); rwa [show (now + 9 - 0) % 9 = now by omega] at h0
    obtain ⟨_, _, _, _, _, _, hm2, -⟩ := id hMS2
    refine v_istore (pc' := 1070) (i := 5) (L' := [(5, .int (nI 0)), (4, .int (nI i)), (3, .ref out), (2, .ref m), (1, .ref x), (0, .ref sb)]) F dL_law_1068  (by decide) rfl rfl ?_
    refine v_aload_n (pc' := 1071) F dL_law_1070 rfl (j := 3) rfl rfl ?_
    refine v_aload_n (pc' := 1072) F dL_law_1071 rfl (j := 5) rfl rfl ?_
    refine v_iload (pc' := 1074) F dL_law_1072  (j := 1) rfl rfl ?_
    refine v_iconst (pc' := 1075) (v := nI 1) F dL_law_1074 (by decide) rfl ?_
    refine v_iadd (pc' := 1076) (v := nI (i + 1)) F dL_law_1075 (nI_add i 1) rfl ?_
    refine w_sld (pc' := 1077) (j := i + 1) F hSc (by omega) (by omega) hw1 dL_law_1076 rfl ?_
    refine v_callV (pc' := 1080) (rt := (some .int)) (mcc := 0) (msc := 0) (As := [.int (nI j)]) (st := []) F (fun l => c_X7_pop G z0 l hMS2 hnow2 w9 hS2 hu hj hne hn9) gL_law_X7_pop rfl hv_X7_pop (by decide) (by decide) hm2 rfl rfl rfl (Nat.le_of_ble_eq_true rfl) (by omega) (by omega) dL_law_1077 rfl (fun v2 h1 hqm => ?_)
    obtain ⟨rfl, RN, hMS3, hSN, hON, fQ⟩ := hqm
    obtain ⟨hC3, ho3⟩ := LI.m2 hC2 hM2 hAP hgo (sub_c m rows asd vals many way told oth lst text) fQ
    obtain ⟨ha3, ht3⟩ := mS.atC hMS2 hasd2 htext2 fQ
    obtain ⟨_, _, _, _, _, _, hm3, -⟩ := id hMS3
    refine v_istore (pc' := 1082) (i := 6) (L' := [(6, .int (nI (Ds 0).1)), (5, .int (nI 0)), (4, .int (nI i)), (3, .ref out), (2, .ref m), (1, .ref x), (0, .ref sb)]) F dL_law_1080  (by decide) rfl rfl ?_
    refine v_aload_n (pc' := 1083) F dL_law_1082 rfl (j := 4) rfl rfl ?_
    refine v_callV (pc' := 1086) (rt := (some .int)) (mcc := 0) (msc := 0) (As := []) (st := []) F (fun l => c_X7_thrown G z0 l hm3) gL_law_X7_thrown rfl hv_X7_thrown (by decide) (by decide) hm3 rfl rfl rfl (Nat.le_of_ble_eq_true rfl) (by omega) (by omega) dL_law_1083 rfl (fun v3 h1 hqt => ?_)
    obtain ⟨rfl, rfl⟩ := hqt
    refine v_iload (pc' := 1088) F dL_law_1086  (j := 1) rfl rfl ?_
    refine w_icmp_eq (tgt := 1093) (pc' := 1091) F (by omega) (by omega) dL_law_1088 (by decide) rfl (fun _ => ?_) (fun c0 => absurd c0 (by omega))
    refine v_iload (pc' := 1095) F dL_law_1093  (j := 1) rfl rfl ?_
    refine w_if_ne (tgt := 1110) (pc' := 1098) F (by omega) dL_law_1095 (by decide) rfl (fun c0 => absurd c0 (by omega)) (fun _ => ?_)
    refine v_aload_n (pc' := 1099) F dL_law_1098 rfl (j := 3) rfl rfl ?_
    refine v_iconst (pc' := 1100) (v := nI 0) F dL_law_1099 (by decide) rfl ?_
    refine w_lald (pc' := 1101) (v := (nI (Ds 0).1).toInt64) F ho3 (by omega) (by omega) hg0 dL_law_1100 rfl ?_
    refine v_iload (pc' := 1103) F dL_law_1101  (j := 0) rfl rfl ?_
    refine v_i2l (pc' := 1104) (v := (nI (Ds 0).1).toInt64) F dL_law_1103 rfl rfl ?_
    refine v_lcmp (pc' := 1105) F dL_law_1104 rfl ?_
    refine v_if_eq (tgt := 1110) (pc' := 1108) F dL_law_1105 (by decide) rfl (fun _ => ?_) (fun c0 => absurd (lg_self _) c0)
    refine v_goto (tgt := 1252) F dL_law_1110 (by decide) ?_
    refine v_sub (L' := [(4, .int (nI i)), (3, .ref out), (2, .ref m), (1, .ref x), (0, .ref sb)]) [2, 3, 4, 5, 6] rfl ?_
    exact K _ _ _ (by omega) (by omega) ⟨t, bl, off, _, _, ((now + 1) % 9), _, g9, hC3, ⟨_, len2, spot2, fa2, num2, frm2, may2, RN, A2, T2, hMS3, Nat.mod_lt _ (by omega), ha3, ht3, hT2, sl_chg hnow2 (fun i hi => (hDs i hi).1) hsl2 hSN hON⟩, hAP, ho3⟩
  · obtain ⟨hP9, hs1, f1⟩ := hx1
    obtain ⟨hC1, hM1, ho1⟩ := LI.q hCI hMI hAP ho hs1 f1
    rcases hP9 with ⟨rfl, hno⟩ | ⟨rfl, ⟨j, hj, ew1⟩, hno⟩
    · have hkc : kc = 1 := by rw [← hec]; decide
      subst hkc
      obtain ⟨th2, len2, spot2, fa2, num2, frm2, may2, R2, A2, T2, hMS2, hnow2, hasd2, htext2, hT2, hsl2⟩ := id hM1
      have hS2 : slD R2 (330 * now) (Ds 0) := by have h0 := hsl2 0 (Nat.zero_le _); rwa [show (now + 9 - 0) % 9 = now by omega] at h0
      obtain ⟨_, _, _, _, _, _, hm2, -⟩ := id hMS2
      refine v_istore (pc' := 1070) (i := 5) (L' := [(5, .int (nI 1)), (4, .int (nI i)), (3, .ref out), (2, .ref m), (1, .ref x), (0, .ref sb)]) F dL_law_1068  (by decide) rfl rfl ?_
      refine v_aload_n (pc' := 1071) F dL_law_1070 rfl (j := 3) rfl rfl ?_
      refine v_aload_n (pc' := 1072) F dL_law_1071 rfl (j := 5) rfl rfl ?_
      refine v_iload (pc' := 1074) F dL_law_1072  (j := 1) rfl rfl ?_
      refine v_iconst (pc' := 1075) (v := nI 1) F dL_law_1074 (by decide) rfl ?_
      refine v_iadd (pc' := 1076) (v := nI (i + 1)) F dL_law_1075 (nI_add i 1) rfl ?_
      refine w_sld (pc' := 1077) (j := i + 1) F hSc (by omega) (by omega) hw1 dL_law_1076 rfl ?_
      refine v_callV (pc' := 1080) (rt := (some .int)) (mcc := 0) (msc := 0) (As := [.int w1]) (st := []) F (fun l => o1_X7_pop G z0 l hMS2 hnow2 w9 hS2 w1 hno) gL_law_X7_pop rfl hv_X7_pop (by decide) (by decide) hm2 rfl rfl rfl (Nat.le_of_ble_eq_true rfl) (by omega) (by omega) dL_law_1077 rfl (fun v5 h4 hqm => ?_)
      obtain ⟨⟨y9, rfl⟩, hMS3, fQ⟩ := hqm
      obtain ⟨hC3, ho3⟩ := LI.m hC1 hM1 hAP ho1 (sub_q m rows asd vals many way told oth lst text) fQ
      obtain ⟨ha3, ht3⟩ := mS.at hMS2 hasd2 htext2 fQ
      obtain ⟨_, _, _, _, _, _, hm3, -⟩ := id hMS3
      refine v_istore (pc' := 1082) (i := 6) (L' := [(6, .int y9), (5, .int (nI 1)), (4, .int (nI i)), (3, .ref out), (2, .ref m), (1, .ref x), (0, .ref sb)]) F dL_law_1080  (by decide) rfl rfl ?_
      refine v_aload_n (pc' := 1083) F dL_law_1082 rfl (j := 4) rfl rfl ?_
      refine v_callV (pc' := 1086) (rt := (some .int)) (mcc := 0) (msc := 0) (As := []) (st := []) F (fun l => c_X7_thrown G z0 l hm3) gL_law_X7_thrown rfl hv_X7_thrown (by decide) (by decide) hm3 rfl rfl rfl (Nat.le_of_ble_eq_true rfl) (by omega) (by omega) dL_law_1083 rfl (fun v6 h4 hqt => ?_)
      obtain ⟨rfl, rfl⟩ := hqt
      refine v_iload (pc' := 1088) F dL_law_1086  (j := 1) rfl rfl ?_
      refine w_icmp_eq (tgt := 1093) (pc' := 1091) F (by omega) (by omega) dL_law_1088 (by decide) rfl (fun _ => ?_) (fun c0 => absurd c0 (by omega))
      refine v_iload (pc' := 1095) F dL_law_1093  (j := 1) rfl rfl ?_
      refine w_if_ne (tgt := 1110) (pc' := 1098) F (by omega) dL_law_1095 (by decide) rfl (fun _ => ?_) (fun c0 => absurd c0 (by omega))
      refine v_goto (tgt := 1252) F dL_law_1110 (by decide) ?_
      refine v_sub (L' := [(4, .int (nI i)), (3, .ref out), (2, .ref m), (1, .ref x), (0, .ref sb)]) [2, 3, 4, 5, 6] rfl ?_
      exact K _ _ _ (by omega) (by omega) ⟨t, bl, off, cur, und, now, Ds, g, hC3.more, ⟨_, len2, spot2, fa2, num2, frm2, may2, R2, A2, T2, hMS3, hnow2, ha3, ht3, hT2, hsl2⟩, hAP, ho3⟩
    · have hkc : kc = 2 := by rw [← hec]; decide
      subst hkc
      subst ew1
      have hno2 : ¬ (wVals ((Ds 0).2.2.2.2 j) ≠ [] ∧ (Ds 0).1 < 64) := fun zi => hno (fun j2 hj2 e2 => by have ej : j = j2 := (nI_eq (by omega) (by omega)).mp e2; subst ej; exact zi)
      obtain ⟨th2, len2, spot2, fa2, num2, frm2, may2, R2, A2, T2, hMS2, hnow2, hasd2, htext2, hT2, hsl2⟩ := id hM1
      have hS2 : slD R2 (330 * now) (Ds 0) := by have h0 := hsl2 0 (Nat.zero_le _); rwa [show (now + 9 - 0) % 9 = now by omega] at h0
      obtain ⟨_, _, _, _, _, _, hm2, -⟩ := id hMS2
      refine v_istore (pc' := 1070) (i := 5) (L' := [(5, .int (nI 2)), (4, .int (nI i)), (3, .ref out), (2, .ref m), (1, .ref x), (0, .ref sb)]) F dL_law_1068  (by decide) rfl rfl ?_
      refine v_aload_n (pc' := 1071) F dL_law_1070 rfl (j := 3) rfl rfl ?_
      refine v_aload_n (pc' := 1072) F dL_law_1071 rfl (j := 5) rfl rfl ?_
      refine v_iload (pc' := 1074) F dL_law_1072  (j := 1) rfl rfl ?_
      refine v_iconst (pc' := 1075) (v := nI 1) F dL_law_1074 (by decide) rfl ?_
      refine v_iadd (pc' := 1076) (v := nI (i + 1)) F dL_law_1075 (nI_add i 1) rfl ?_
      refine w_sld (pc' := 1077) (j := i + 1) F hSc (by omega) (by omega) hw1 dL_law_1076 rfl ?_
      refine v_callV (pc' := 1080) (rt := (some .int)) (mcc := 0) (msc := 0) (As := [.int (nI j)]) (st := []) F (fun l => o2_X7_pop G z0 l hMS2 hnow2 w9 hS2 hj hno2) gL_law_X7_pop rfl hv_X7_pop (by decide) (by decide) hm2 rfl rfl rfl (Nat.le_of_ble_eq_true rfl) (by omega) (by omega) dL_law_1077 rfl (fun v8 h7 hqm => ?_)
      obtain ⟨⟨y9, rfl⟩, hMS3, fQ⟩ := hqm
      obtain ⟨hC3, ho3⟩ := LI.m hC1 hM1 hAP ho1 (sub_q m rows asd vals many way told oth lst text) fQ
      obtain ⟨ha3, ht3⟩ := mS.at hMS2 hasd2 htext2 fQ
      obtain ⟨_, _, _, _, _, _, hm3, -⟩ := id hMS3
      refine v_istore (pc' := 1082) (i := 6) (L' := [(6, .int y9), (5, .int (nI 2)), (4, .int (nI i)), (3, .ref out), (2, .ref m), (1, .ref x), (0, .ref sb)]) F dL_law_1080  (by decide) rfl rfl ?_
      refine v_aload_n (pc' := 1083) F dL_law_1082 rfl (j := 4) rfl rfl ?_
      refine v_callV (pc' := 1086) (rt := (some .int)) (mcc := 0) (msc := 0) (As := []) (st := []) F (fun l => c_X7_thrown G z0 l hm3) gL_law_X7_thrown rfl hv_X7_thrown (by decide) (by decide) hm3 rfl rfl rfl (Nat.le_of_ble_eq_true rfl) (by omega) (by omega) dL_law_1083 rfl (fun v9 h7 hqt => ?_)
      obtain ⟨rfl, rfl⟩ := hqt
      refine v_iload (pc' := 1088) F dL_law_1086  (j := 1) rfl rfl ?_
      refine w_icmp_eq (tgt := 1093) (pc' := 1091) F (by omega) (by omega) dL_law_1088 (by decide) rfl (fun _ => ?_) (fun c0 => absurd c0 (by omega))
      refine v_iload (pc' := 1095) F dL_law_1093  (j := 1) rfl rfl ?_
      refine w_if_ne (tgt := 1110) (pc' := 1098) F (by omega) dL_law_1095 (by decide) rfl (fun _ => ?_) (fun c0 => absurd c0 (by omega))
      refine v_goto (tgt := 1252) F dL_law_1110 (by decide) ?_
      refine v_sub (L' := [(4, .int (nI i)), (3, .ref out), (2, .ref m), (1, .ref x), (0, .ref sb)]) [2, 3, 4, 5, 6] rfl ?_
      exact K _ _ _ (by omega) (by omega) ⟨t, bl, off, cur, und, now, Ds, g, hC3.more, ⟨_, len2, spot2, fa2, num2, frm2, may2, R2, A2, T2, hMS3, hnow2, ha3, ht3, hT2, hsl2⟩, hAP, ho3⟩
theorem hd_L_drop : yL_drop.cls ≠ "java/lang/invoke/MethodHandle" ∧ yL_drop.cls ≠ "java/lang/invoke/VarHandle" ∧ (parseMethodDescriptor yL_drop.desc).map (fun d => d.parameters.length) = some 3 := by decide +kernel
theorem hv_X7_drop : yX7_drop.cls = RX7 ∧ yX7_drop.cls ≠ "java/lang/invoke/MethodHandle" ∧ yX7_drop.cls ≠ "java/lang/invoke/VarHandle" ∧ (parseMethodDescriptor yX7_drop.desc).map (fun d => d.parameters.length) = some 1 := by decide +kernel
set_option maxHeartbeats 4000000 in
set_option maxRecDepth 100000 in
theorem op_drop {G : gG} {z0 : Nat} {X : gX} {mc ms cells slots i N sb k : Nat} {nm : String} {xs : Nat → Int32} {h : gH} {x buf rd bks oq rw orw root m rows asd vals many way told oth lst text out : Nat} {bk bv : Nat → Nat} (F : gF G z0 X cL_law 9 RL wsL_law (some .boolean) nm 14 526 mc ms) (hst : X.2.1.stackTraces = false) (hSc : gSc z0 X sb N xs) (hN : N ≤ 3072) (hiN : i + 6 ≤ N) (hcc : cells + 1173 ≤ mc) (hss : slots + 14000 ≤ ms) (hk9 : k < 60000) (hL : LI G h x buf rd bks oq rw orw root m rows asd vals many way told oth lst text out bk bv k) (K : ∀ (c9 s9 : Nat) (h' : gH), c9 ≤ cells + 1173 → s9 ≤ slots + 14000 → LI G h' x buf rd bks oq rw orw root m rows asd vals many way told oth lst text out bk bv (k + 1) → gV G z0 X c9 s9 h' 1252 [(4, .int (nI i)), (3, .ref out), (2, .ref m), (1, .ref x), (0, .ref sb)] []) : gV G z0 X cells slots h 1113 [(4, .int (nI i)), (3, .ref out), (2, .ref m), (1, .ref x), (0, .ref sb)] [] := by
  obtain ⟨t, bl, off, cur, und, now, Ds, g, hCI, hMI, hAP, ho⟩ := hL
  obtain ⟨hX, ⟨hc, hu, hb5⟩, ⟨fb, hbuf, hft⟩, hRd, hsc, hro, hVr, hring, ⟨hbi, hvi⟩, hDs⟩ := id hCI
  obtain ⟨w9, hdr, ad, as, hcl, hroot⟩ := hCI.now
  have hB := hcl.1
  have hD := hcl.dat w9
  have hn := w9.2.1
  have h1n := w9.1
  have hx6 := hX.1
  obtain ⟨th, len, spot, fa, num, frm, may, R, A, T, hMS, hnow, hasd, htext, hT, hsl⟩ := id hMI
  have hnc : (cur + 1) % 10 < 10 := Nat.mod_lt _ (by omega)
  obtain ⟨n2, pc2, dr2, f2, hb2, hva2, hf0⟩ := hring _ hnc
  have hbb : bk ((cur + 1) % 10) ≠ bk cur := fun z => by have := hbi _ _ hnc hc z; omega
  have hvv : bv ((cur + 1) % 10) ≠ bv cur := fun z => by have := hvi _ _ hnc hc z; omega
  have hoK : ∀ h9 : gH, gfr [x, bk ((cur + 1) % 10), bv ((cur + 1) % 10)] h h9 → h9 out = some (oL G 1 g) := fun h9 f9 => f9 _ _ (gnc (ne9 ho hx6 (by simp [kd9])) (gnc (ne9 ho hb2 (by simp [kd9])) (gnc (ne9 ho hva2 (by simp [kd9])) gn0))) ho
  have hoQ : ∀ h9 : gH, scr G h9 rw orw oq → gfr [rw, orw, oq] h h9 → h9 out = some (oL G 1 g) := fun h9 s9 f9 => (LI.q hCI hMI hAP ho s9 f9).2.2
  obtain ⟨w1, hw1⟩ : ∃ w, xs (i + 1) = w := ⟨_, rfl⟩
  refine v_aload_n (pc' := 1114) F dL_law_1113 rfl (j := 3) rfl rfl ?_
  refine v_aload_n (pc' := 1115) F dL_law_1114 rfl (j := 4) rfl rfl ?_
  refine v_iload (pc' := 1117) F dL_law_1115  (j := 0) rfl rfl ?_
  refine v_iconst (pc' := 1118) (v := nI 1) F dL_law_1117 (by decide) rfl ?_
  refine v_iadd (pc' := 1119) (v := nI (i + 1)) F dL_law_1118 (nI_add i 1) rfl ?_
  refine w_sld (pc' := 1120) (j := i + 1) F hSc (by omega) (by omega) hw1 dL_law_1119 rfl ?_
  refine v_aload_n (pc' := 1121) F dL_law_1120 rfl (j := 1) rfl rfl ?_
  refine v_callSH (pc' := 1124) (rt := (some .int)) (hh := [(0, 9, 12, 22), (0, 9, 15, 55)]) (mcc := 2) (msc := 12) (As := [.ref x, .int w1, .ref out]) (st := []) F hst (fun l hst => c_L_drop G z0 l hst w1 hx6 ho (fun l hst => c_X6_drop G z0 l hst w1 hX hc hu hn hB hD hro hsc hbb hvv ⟨hb2, f2, hva2⟩ (by omega)) (fun v h9 hq => by obtain ⟨j, n9, en9, hj, ew1, hj0, hch, hv, hX1, hB1, f1⟩ := hq; exact ⟨⟨_, hv⟩, hoK _ f1⟩) (fun E h9 hq => by rcases hq.1 with z | z; exact .inl z.1; exact .inr z.1)) gL_law_L_drop rfl hd_L_drop (by decide) (by decide) rfl rfl (Nat.le_of_ble_eq_true rfl) (by omega) (by omega) dL_law_1121 rfl (fun v9 h9 hq => ?_)
  rcases hq with ⟨k9, h1, hq1, rfl, g9, hgo, hg0, fO⟩ | ⟨E9, kc, hx1, rfl, hec⟩
  · obtain ⟨j, n9, en9, hj, ew1, hj0, hch, hv, hX1, hB1, f1⟩ := hq1
    subst ew1
    obtain rfl := Value.int.inj (Option.some.inj hv)
    have fC : gfr [x, rd, bk ((cur + 1) % 10), bv ((cur + 1) % 10)] h h1 := gfr.mono f1 (by intro q9 z9 m9; apply z9; simp only [List.mem_cons, List.not_mem_nil, or_false] at m9 ⊢; omega)
    have gp1 : gpv h h1 := gfr.pv f1 (by
      intro a9 m9 ci9 fs9 c9 z9
      simp only [List.mem_cons, List.not_mem_nil, or_false] at m9
      rcases m9 with rfl | rfl | rfl
      · rw [hx6] at z9; cases z9; omega
      · rw [hb2] at z9; cases z9; omega
      · rw [hva2] at z9; cases z9)
    have hrd1 : rdI h1 rd := by
      obtain ⟨o9, e9, l9, tx, bk9, at9, st9, kd9_, nu9, may9, z7, z8⟩ := hRd
      exact ⟨o9, e9, l9, tx, bk9, at9, st9, kd9_, nu9, may9, z7, f1 _ _ (gnc (ne9 z8 hx6 (by simp [kd9])) (gnc (ne9 z8 hb2 (by simp [kd9])) (gnc (ne9 z8 hva2 (by simp [kd9])) gn0))) z8⟩
    have ho1 := hoK _ f1
    rw [br_ch w9 hcl hj (Ds 0).1 (Nat.le_refl _)] at hch
    change chD (Ds 0) j = 0 at hch
    obtain rfl : n9 = (Ds 0).1 - 1 := by omega
    have hcl1 := cl_drop w9 hcl (by omega) hj hch hB1 gp1
    have hr1 : (fun i => if i < j then ad i else ad (i + 1)) 0 = root := by show (if 0 < j then ad 0 else ad (0 + 1)) = root; rw [if_pos (by omega)]; exact hroot
    have hC1 := hCI.chg fC hrd1 (w9.drop (by omega) hj hch) hcl1 hr1 hX1 (Nat.le_refl _) (show (Ds 0).2.2.1 + 1 ≤ k + 1 by omega)
    have hM1 := hMI.fr (nin (fun s9 hs9 a9 ha9 => by
      simp only [List.mem_cons, List.not_mem_nil, or_false] at hs9
      rcases hs9 with rfl | rfl | rfl
      · exact hMI.no hx6 (.inl (by show 6 < 7; decide)) a9 ha9
      · exact hMI.no hb2 (.inl (by show 0 < 7; decide)) a9 ha9
      · exact hMI.no hva2 (.inr (.inr rfl)) a9 ha9)) f1
    obtain ⟨hC2, hM2⟩ := LI.o2 hC1 hM1 ho1 fO
    obtain ⟨th2, len2, spot2, fa2, num2, frm2, may2, R2, A2, T2, hMS2, hnow2, hasd2, htext2, hT2, hsl2⟩ := id hM2
    have hS2 : slD R2 (330 * now) (Ds 0) := by have h0 := hsl2 0 (Nat.zero_le _); rwa [show (now + 9 - 0) % 9 = now by omega] at h0
    obtain ⟨_, _, _, _, _, _, hm2, -⟩ := id hMS2
    refine v_istore (pc' := 1126) (i := 5) (L' := [(5, .int (nI 0)), (4, .int (nI i)), (3, .ref out), (2, .ref m), (1, .ref x), (0, .ref sb)]) F dL_law_1124  (by decide) rfl rfl ?_
    refine v_aload_n (pc' := 1127) F dL_law_1126 rfl (j := 3) rfl rfl ?_
    refine v_aload_n (pc' := 1128) F dL_law_1127 rfl (j := 5) rfl rfl ?_
    refine v_iload (pc' := 1130) F dL_law_1128  (j := 1) rfl rfl ?_
    refine v_iconst (pc' := 1131) (v := nI 1) F dL_law_1130 (by decide) rfl ?_
    refine v_iadd (pc' := 1132) (v := nI (i + 1)) F dL_law_1131 (nI_add i 1) rfl ?_
    refine w_sld (pc' := 1133) (j := i + 1) F hSc (by omega) (by omega) hw1 dL_law_1132 rfl ?_
    refine v_callV (pc' := 1136) (rt := (some .int)) (mcc := 0) (msc := 0) (As := [.int (nI j)]) (st := []) F (fun l => c_X7_drop G z0 l hMS2 hnow2 w9 hS2 hu (by omega) hj hch) gL_law_X7_drop rfl hv_X7_drop (by decide) (by decide) hm2 rfl rfl rfl (Nat.le_of_ble_eq_true rfl) (by omega) (by omega) dL_law_1133 rfl (fun v2 h1 hqm => ?_)
    obtain ⟨rfl, RN, hMS3, hSN, hON, fQ⟩ := hqm
    obtain ⟨hC3, ho3⟩ := LI.m2 hC2 hM2 hAP hgo (sub_c m rows asd vals many way told oth lst text) fQ
    obtain ⟨ha3, ht3⟩ := mS.atC hMS2 hasd2 htext2 fQ
    obtain ⟨_, _, _, _, _, _, hm3, -⟩ := id hMS3
    refine v_istore (pc' := 1138) (i := 6) (L' := [(6, .int (nI ((Ds 0).1 - 1))), (5, .int (nI 0)), (4, .int (nI i)), (3, .ref out), (2, .ref m), (1, .ref x), (0, .ref sb)]) F dL_law_1136  (by decide) rfl rfl ?_
    refine v_aload_n (pc' := 1139) F dL_law_1138 rfl (j := 4) rfl rfl ?_
    refine v_callV (pc' := 1142) (rt := (some .int)) (mcc := 0) (msc := 0) (As := []) (st := []) F (fun l => c_X7_thrown G z0 l hm3) gL_law_X7_thrown rfl hv_X7_thrown (by decide) (by decide) hm3 rfl rfl rfl (Nat.le_of_ble_eq_true rfl) (by omega) (by omega) dL_law_1139 rfl (fun v3 h1 hqt => ?_)
    obtain ⟨rfl, rfl⟩ := hqt
    refine v_iload (pc' := 1144) F dL_law_1142  (j := 1) rfl rfl ?_
    refine w_icmp_eq (tgt := 1149) (pc' := 1147) F (by omega) (by omega) dL_law_1144 (by decide) rfl (fun _ => ?_) (fun c0 => absurd c0 (by omega))
    refine v_iload (pc' := 1151) F dL_law_1149  (j := 1) rfl rfl ?_
    refine w_if_ne (tgt := 1166) (pc' := 1154) F (by omega) dL_law_1151 (by decide) rfl (fun c0 => absurd c0 (by omega)) (fun _ => ?_)
    refine v_aload_n (pc' := 1155) F dL_law_1154 rfl (j := 3) rfl rfl ?_
    refine v_iconst (pc' := 1156) (v := nI 0) F dL_law_1155 (by decide) rfl ?_
    refine w_lald (pc' := 1157) (v := (nI ((Ds 0).1 - 1)).toInt64) F ho3 (by omega) (by omega) hg0 dL_law_1156 rfl ?_
    refine v_iload (pc' := 1159) F dL_law_1157  (j := 0) rfl rfl ?_
    refine v_i2l (pc' := 1160) (v := (nI ((Ds 0).1 - 1)).toInt64) F dL_law_1159 rfl rfl ?_
    refine v_lcmp (pc' := 1161) F dL_law_1160 rfl ?_
    refine v_if_eq (tgt := 1166) (pc' := 1164) F dL_law_1161 (by decide) rfl (fun _ => ?_) (fun c0 => absurd (lg_self _) c0)
    refine v_goto (tgt := 1252) F dL_law_1166 (by decide) ?_
    refine v_sub (L' := [(4, .int (nI i)), (3, .ref out), (2, .ref m), (1, .ref x), (0, .ref sb)]) [2, 3, 4, 5, 6] rfl ?_
    exact K _ _ _ (by omega) (by omega) ⟨t, bl, off, _, _, ((now + 1) % 9), _, g9, hC3, ⟨_, len2, spot2, fa2, num2, frm2, may2, RN, A2, T2, hMS3, Nat.mod_lt _ (by omega), ha3, ht3, hT2, sl_chg hnow2 (fun i hi => (hDs i hi).1) hsl2 hSN hON⟩, hAP, ho3⟩
  · obtain ⟨hP9, hs1, f1⟩ := hx1
    obtain ⟨hC1, hM1, ho1⟩ := LI.q hCI hMI hAP ho hs1 f1
    rcases hP9 with ⟨rfl, hno⟩ | ⟨rfl, ⟨j, hj, ew1⟩, hno⟩
    · have hkc : kc = 1 := by rw [← hec]; decide
      subst hkc
      obtain ⟨th2, len2, spot2, fa2, num2, frm2, may2, R2, A2, T2, hMS2, hnow2, hasd2, htext2, hT2, hsl2⟩ := id hM1
      have hS2 : slD R2 (330 * now) (Ds 0) := by have h0 := hsl2 0 (Nat.zero_le _); rwa [show (now + 9 - 0) % 9 = now by omega] at h0
      obtain ⟨_, _, _, _, _, _, hm2, -⟩ := id hMS2
      refine v_istore (pc' := 1126) (i := 5) (L' := [(5, .int (nI 1)), (4, .int (nI i)), (3, .ref out), (2, .ref m), (1, .ref x), (0, .ref sb)]) F dL_law_1124  (by decide) rfl rfl ?_
      refine v_aload_n (pc' := 1127) F dL_law_1126 rfl (j := 3) rfl rfl ?_
      refine v_aload_n (pc' := 1128) F dL_law_1127 rfl (j := 5) rfl rfl ?_
      refine v_iload (pc' := 1130) F dL_law_1128  (j := 1) rfl rfl ?_
      refine v_iconst (pc' := 1131) (v := nI 1) F dL_law_1130 (by decide) rfl ?_
      refine v_iadd (pc' := 1132) (v := nI (i + 1)) F dL_law_1131 (nI_add i 1) rfl ?_
      refine w_sld (pc' := 1133) (j := i + 1) F hSc (by omega) (by omega) hw1 dL_law_1132 rfl ?_
      refine v_callV (pc' := 1136) (rt := (some .int)) (mcc := 0) (msc := 0) (As := [.int w1]) (st := []) F (fun l => o1_X7_drop G z0 l hMS2 hnow2 w9 hS2 w1 hno) gL_law_X7_drop rfl hv_X7_drop (by decide) (by decide) hm2 rfl rfl rfl (Nat.le_of_ble_eq_true rfl) (by omega) (by omega) dL_law_1133 rfl (fun v5 h4 hqm => ?_)
      obtain ⟨⟨y9, rfl⟩, hMS3, fQ⟩ := hqm
      obtain ⟨hC3, ho3⟩ := LI.m hC1 hM1 hAP ho1 (sub_q m rows asd vals many way told oth lst text) fQ
      obtain ⟨ha3, ht3⟩ := mS.at hMS2 hasd2 htext2 fQ
      obtain ⟨_, _, _, _, _, _, hm3, -⟩ := id hMS3
      refine v_istore (pc' := 1138) (i := 6) (L' := [(6, .int y9), (5, .int (nI 1)), (4, .int (nI i)), (3, .ref out), (2, .ref m), (1, .ref x), (0, .ref sb)]) F dL_law_1136  (by decide) rfl rfl ?_
      refine v_aload_n (pc' := 1139) F dL_law_1138 rfl (j := 4) rfl rfl ?_
      refine v_callV (pc' := 1142) (rt := (some .int)) (mcc := 0) (msc := 0) (As := []) (st := []) F (fun l => c_X7_thrown G z0 l hm3) gL_law_X7_thrown rfl hv_X7_thrown (by decide) (by decide) hm3 rfl rfl rfl (Nat.le_of_ble_eq_true rfl) (by omega) (by omega) dL_law_1139 rfl (fun v6 h4 hqt => ?_)
      obtain ⟨rfl, rfl⟩ := hqt
      refine v_iload (pc' := 1144) F dL_law_1142  (j := 1) rfl rfl ?_
      refine w_icmp_eq (tgt := 1149) (pc' := 1147) F (by omega) (by omega) dL_law_1144 (by decide) rfl (fun _ => ?_) (fun c0 => absurd c0 (by omega))
      refine v_iload (pc' := 1151) F dL_law_1149  (j := 1) rfl rfl ?_
      refine w_if_ne (tgt := 1166) (pc' := 1154) F (by omega) dL_law_1151 (by decide) rfl (fun _ => ?_) (fun c0 => absurd c0 (by omega))
      refine v_goto (tgt := 1252) F dL_law_1166 (by decide) ?_
      refine v_sub (L' := [(4, .int (nI i)), (3, .ref out), (2, .ref m), (1, .ref x), (0, .ref sb)]) [2, 3, 4, 5, 6] rfl ?_
      exact K _ _ _ (by omega) (by omega) ⟨t, bl, off, cur, und, now, Ds, g, hC3.more, ⟨_, len2, spot2, fa2, num2, frm2, may2, R2, A2, T2, hMS3, hnow2, ha3, ht3, hT2, hsl2⟩, hAP, ho3⟩
    · have hkc : kc = 2 := by rw [← hec]; decide
      subst hkc
      subst ew1
      have hno2 : ¬ (0 < j ∧ chD (Ds 0) j = 0) := fun zi => hno (fun j2 hj2 e2 => by have ej : j = j2 := (nI_eq (by omega) (by omega)).mp e2; subst ej; exact ⟨by omega, (br_ch w9 hcl hj (Ds 0).1 (Nat.le_refl _)).trans zi.2⟩)
      obtain ⟨th2, len2, spot2, fa2, num2, frm2, may2, R2, A2, T2, hMS2, hnow2, hasd2, htext2, hT2, hsl2⟩ := id hM1
      have hS2 : slD R2 (330 * now) (Ds 0) := by have h0 := hsl2 0 (Nat.zero_le _); rwa [show (now + 9 - 0) % 9 = now by omega] at h0
      obtain ⟨_, _, _, _, _, _, hm2, -⟩ := id hMS2
      refine v_istore (pc' := 1126) (i := 5) (L' := [(5, .int (nI 2)), (4, .int (nI i)), (3, .ref out), (2, .ref m), (1, .ref x), (0, .ref sb)]) F dL_law_1124  (by decide) rfl rfl ?_
      refine v_aload_n (pc' := 1127) F dL_law_1126 rfl (j := 3) rfl rfl ?_
      refine v_aload_n (pc' := 1128) F dL_law_1127 rfl (j := 5) rfl rfl ?_
      refine v_iload (pc' := 1130) F dL_law_1128  (j := 1) rfl rfl ?_
      refine v_iconst (pc' := 1131) (v := nI 1) F dL_law_1130 (by decide) rfl ?_
      refine v_iadd (pc' := 1132) (v := nI (i + 1)) F dL_law_1131 (nI_add i 1) rfl ?_
      refine w_sld (pc' := 1133) (j := i + 1) F hSc (by omega) (by omega) hw1 dL_law_1132 rfl ?_
      refine v_callV (pc' := 1136) (rt := (some .int)) (mcc := 0) (msc := 0) (As := [.int (nI j)]) (st := []) F (fun l => o2_X7_drop G z0 l hMS2 hnow2 w9 hS2 hj hno2) gL_law_X7_drop rfl hv_X7_drop (by decide) (by decide) hm2 rfl rfl rfl (Nat.le_of_ble_eq_true rfl) (by omega) (by omega) dL_law_1133 rfl (fun v8 h7 hqm => ?_)
      obtain ⟨⟨y9, rfl⟩, hMS3, fQ⟩ := hqm
      obtain ⟨hC3, ho3⟩ := LI.m hC1 hM1 hAP ho1 (sub_q m rows asd vals many way told oth lst text) fQ
      obtain ⟨ha3, ht3⟩ := mS.at hMS2 hasd2 htext2 fQ
      obtain ⟨_, _, _, _, _, _, hm3, -⟩ := id hMS3
      refine v_istore (pc' := 1138) (i := 6) (L' := [(6, .int y9), (5, .int (nI 2)), (4, .int (nI i)), (3, .ref out), (2, .ref m), (1, .ref x), (0, .ref sb)]) F dL_law_1136  (by decide) rfl rfl ?_
      refine v_aload_n (pc' := 1139) F dL_law_1138 rfl (j := 4) rfl rfl ?_
      refine v_callV (pc' := 1142) (rt := (some .int)) (mcc := 0) (msc := 0) (As := []) (st := []) F (fun l => c_X7_thrown G z0 l hm3) gL_law_X7_thrown rfl hv_X7_thrown (by decide) (by decide) hm3 rfl rfl rfl (Nat.le_of_ble_eq_true rfl) (by omega) (by omega) dL_law_1139 rfl (fun v9 h7 hqt => ?_)
      obtain ⟨rfl, rfl⟩ := hqt
      refine v_iload (pc' := 1144) F dL_law_1142  (j := 1) rfl rfl ?_
      refine w_icmp_eq (tgt := 1149) (pc' := 1147) F (by omega) (by omega) dL_law_1144 (by decide) rfl (fun _ => ?_) (fun c0 => absurd c0 (by omega))
      refine v_iload (pc' := 1151) F dL_law_1149  (j := 1) rfl rfl ?_
      refine w_if_ne (tgt := 1166) (pc' := 1154) F (by omega) dL_law_1151 (by decide) rfl (fun _ => ?_) (fun c0 => absurd c0 (by omega))
      refine v_goto (tgt := 1252) F dL_law_1166 (by decide) ?_
      refine v_sub (L' := [(4, .int (nI i)), (3, .ref out), (2, .ref m), (1, .ref x), (0, .ref sb)]) [2, 3, 4, 5, 6] rfl ?_
      exact K _ _ _ (by omega) (by omega) ⟨t, bl, off, cur, und, now, Ds, g, hC3.more, ⟨_, len2, spot2, fa2, num2, frm2, may2, R2, A2, T2, hMS3, hnow2, ha3, ht3, hT2, hsl2⟩, hAP, ho3⟩
theorem hd_L_rule : yL_rule.cls ≠ "java/lang/invoke/MethodHandle" ∧ yL_rule.cls ≠ "java/lang/invoke/VarHandle" ∧ (parseMethodDescriptor yL_rule.desc).map (fun d => d.parameters.length) = some 3 := by decide +kernel
theorem hv_X7_rule : yX7_rule.cls = RX7 ∧ yX7_rule.cls ≠ "java/lang/invoke/MethodHandle" ∧ yX7_rule.cls ≠ "java/lang/invoke/VarHandle" ∧ (parseMethodDescriptor yX7_rule.desc).map (fun d => d.parameters.length) = some 1 := by decide +kernel
set_option maxHeartbeats 4000000 in
set_option maxRecDepth 100000 in
theorem op_rule {G : gG} {z0 : Nat} {X : gX} {mc ms cells slots i N sb k : Nat} {nm : String} {xs : Nat → Int32} {h : gH} {x buf rd bks oq rw orw root m rows asd vals many way told oth lst text out : Nat} {bk bv : Nat → Nat} (F : gF G z0 X cL_law 9 RL wsL_law (some .boolean) nm 14 526 mc ms) (hst : X.2.1.stackTraces = false) (hSc : gSc z0 X sb N xs) (hN : N ≤ 3072) (hiN : i + 6 ≤ N) (hcc : cells + 1173 ≤ mc) (hss : slots + 14000 ≤ ms) (hk9 : k < 60000) (hL : LI G h x buf rd bks oq rw orw root m rows asd vals many way told oth lst text out bk bv k) (K : ∀ (c9 s9 : Nat) (h' : gH), c9 ≤ cells + 1173 → s9 ≤ slots + 14000 → LI G h' x buf rd bks oq rw orw root m rows asd vals many way told oth lst text out bk bv (k + 1) → gV G z0 X c9 s9 h' 1252 [(4, .int (nI i)), (3, .ref out), (2, .ref m), (1, .ref x), (0, .ref sb)] []) : gV G z0 X cells slots h 1169 [(4, .int (nI i)), (3, .ref out), (2, .ref m), (1, .ref x), (0, .ref sb)] [] := by
  obtain ⟨t, bl, off, cur, und, now, Ds, g, hCI, hMI, hAP, ho⟩ := hL
  obtain ⟨hX, ⟨hc, hu, hb5⟩, ⟨fb, hbuf, hft⟩, hRd, hsc, hro, hVr, hring, ⟨hbi, hvi⟩, hDs⟩ := id hCI
  obtain ⟨w9, hdr, ad, as, hcl, hroot⟩ := hCI.now
  have hB := hcl.1
  have hD := hcl.dat w9
  have hn := w9.2.1
  have h1n := w9.1
  have hx6 := hX.1
  obtain ⟨th, len, spot, fa, num, frm, may, R, A, T, hMS, hnow, hasd, htext, hT, hsl⟩ := id hMI
  have hnc : (cur + 1) % 10 < 10 := Nat.mod_lt _ (by omega)
  obtain ⟨n2, pc2, dr2, f2, hb2, hva2, hf0⟩ := hring _ hnc
  have hbb : bk ((cur + 1) % 10) ≠ bk cur := fun z => by have := hbi _ _ hnc hc z; omega
  have hvv : bv ((cur + 1) % 10) ≠ bv cur := fun z => by have := hvi _ _ hnc hc z; omega
  have hoK : ∀ h9 : gH, gfr [x, bk ((cur + 1) % 10), bv ((cur + 1) % 10)] h h9 → h9 out = some (oL G 1 g) := fun h9 f9 => f9 _ _ (gnc (ne9 ho hx6 (by simp [kd9])) (gnc (ne9 ho hb2 (by simp [kd9])) (gnc (ne9 ho hva2 (by simp [kd9])) gn0))) ho
  have hoQ : ∀ h9 : gH, scr G h9 rw orw oq → gfr [rw, orw, oq] h h9 → h9 out = some (oL G 1 g) := fun h9 s9 f9 => (LI.q hCI hMI hAP ho s9 f9).2.2
  obtain ⟨w1, hw1⟩ : ∃ w, xs (i + 1) = w := ⟨_, rfl⟩
  refine v_aload_n (pc' := 1170) F dL_law_1169 rfl (j := 3) rfl rfl ?_
  refine v_aload_n (pc' := 1171) F dL_law_1170 rfl (j := 4) rfl rfl ?_
  refine v_iload (pc' := 1173) F dL_law_1171  (j := 0) rfl rfl ?_
  refine v_iconst (pc' := 1174) (v := nI 1) F dL_law_1173 (by decide) rfl ?_
  refine v_iadd (pc' := 1175) (v := nI (i + 1)) F dL_law_1174 (nI_add i 1) rfl ?_
  refine w_sld (pc' := 1176) (j := i + 1) F hSc (by omega) (by omega) hw1 dL_law_1175 rfl ?_
  refine v_aload_n (pc' := 1177) F dL_law_1176 rfl (j := 1) rfl rfl ?_
  refine v_callSH (pc' := 1180) (rt := (some .int)) (hh := [(0, 9, 12, 13)]) (mcc := 1) (msc := 6) (As := [.ref x, .int w1, .ref out]) (st := []) F hst (fun l hst => c_L_rule G z0 l hst w1 hx6 ho (fun l hst => c_X6_rule G z0 l hst w1 hX hc hu hn hB hD hro hsc hbb hvv ⟨hb2, f2, hva2⟩) (fun v h9 hq => by obtain ⟨kk, hk2, hk4, ew1, hv, hX1, hB1, f1⟩ := hq; exact ⟨⟨_, hv⟩, hoK _ f1⟩) (fun E h9 hq => hq.1.1)) gL_law_L_rule rfl hd_L_rule (by decide) (by decide) rfl rfl (Nat.le_of_ble_eq_true rfl) (by omega) (by omega) dL_law_1177 rfl (fun v9 h9 hq => ?_)
  rcases hq with ⟨k9, h1, hq1, rfl, g9, hgo, hg0, fO⟩ | ⟨E9, kc, hx1, rfl, hec⟩
  · obtain ⟨kk, hk2, hk4, ew1, hv, hX1, hB1, f1⟩ := hq1
    subst ew1
    obtain rfl := Value.int.inj (Option.some.inj hv)
    have fC : gfr [x, rd, bk ((cur + 1) % 10), bv ((cur + 1) % 10)] h h1 := gfr.mono f1 (by intro q9 z9 m9; apply z9; simp only [List.mem_cons, List.not_mem_nil, or_false] at m9 ⊢; omega)
    have gp1 : gpv h h1 := gfr.pv f1 (by
      intro a9 m9 ci9 fs9 c9 z9
      simp only [List.mem_cons, List.not_mem_nil, or_false] at m9
      rcases m9 with rfl | rfl | rfl
      · rw [hx6] at z9; cases z9; omega
      · rw [hb2] at z9; cases z9; omega
      · rw [hva2] at z9; cases z9)
    have hrd1 : rdI h1 rd := by
      obtain ⟨o9, e9, l9, tx, bk9, at9, st9, kd9_, nu9, may9, z7, z8⟩ := hRd
      exact ⟨o9, e9, l9, tx, bk9, at9, st9, kd9_, nu9, may9, z7, f1 _ _ (gnc (ne9 z8 hx6 (by simp [kd9])) (gnc (ne9 z8 hb2 (by simp [kd9])) (gnc (ne9 z8 hva2 (by simp [kd9])) gn0))) z8⟩
    have ho1 := hoK _ f1
    have hcl1 := cl_pace hcl hB1 gp1
    have hC1 := hCI.chg fC hrd1 (w9.pace hk2 hk4) hcl1 hroot hX1 (Nat.le_refl _) (Nat.le_succ_of_le hdr)
    have hM1 := hMI.fr (nin (fun s9 hs9 a9 ha9 => by
      simp only [List.mem_cons, List.not_mem_nil, or_false] at hs9
      rcases hs9 with rfl | rfl | rfl
      · exact hMI.no hx6 (.inl (by show 6 < 7; decide)) a9 ha9
      · exact hMI.no hb2 (.inl (by show 0 < 7; decide)) a9 ha9
      · exact hMI.no hva2 (.inr (.inr rfl)) a9 ha9)) f1
    obtain ⟨hC2, hM2⟩ := LI.o2 hC1 hM1 ho1 fO
    obtain ⟨th2, len2, spot2, fa2, num2, frm2, may2, R2, A2, T2, hMS2, hnow2, hasd2, htext2, hT2, hsl2⟩ := id hM2
    have hS2 : slD R2 (330 * now) (Ds 0) := by have h0 := hsl2 0 (Nat.zero_le _); rwa [show (now + 9 - 0) % 9 = now by omega] at h0
    obtain ⟨_, _, _, _, _, _, hm2, -⟩ := id hMS2
    refine v_istore (pc' := 1182) (i := 5) (L' := [(5, .int (nI 0)), (4, .int (nI i)), (3, .ref out), (2, .ref m), (1, .ref x), (0, .ref sb)]) F dL_law_1180  (by decide) rfl rfl ?_
    refine v_aload_n (pc' := 1183) F dL_law_1182 rfl (j := 3) rfl rfl ?_
    refine v_aload_n (pc' := 1184) F dL_law_1183 rfl (j := 5) rfl rfl ?_
    refine v_iload (pc' := 1186) F dL_law_1184  (j := 1) rfl rfl ?_
    refine v_iconst (pc' := 1187) (v := nI 1) F dL_law_1186 (by decide) rfl ?_
    refine v_iadd (pc' := 1188) (v := nI (i + 1)) F dL_law_1187 (nI_add i 1) rfl ?_
    refine w_sld (pc' := 1189) (j := i + 1) F hSc (by omega) (by omega) hw1 dL_law_1188 rfl ?_
    refine v_callV (pc' := 1192) (rt := (some .int)) (mcc := 0) (msc := 0) (As := [.int (nI kk)]) (st := []) F (fun l => c_X7_rule G z0 l hMS2 hnow2 w9 hS2 hu hk2 hk4) gL_law_X7_rule rfl hv_X7_rule (by decide) (by decide) hm2 rfl rfl rfl (Nat.le_of_ble_eq_true rfl) (by omega) (by omega) dL_law_1189 rfl (fun v2 h1 hqm => ?_)
    obtain ⟨rfl, RN, hMS3, hSN, hON, fQ⟩ := hqm
    obtain ⟨hC3, ho3⟩ := LI.m2 hC2 hM2 hAP hgo (sub_c m rows asd vals many way told oth lst text) fQ
    obtain ⟨ha3, ht3⟩ := mS.atC hMS2 hasd2 htext2 fQ
    obtain ⟨_, _, _, _, _, _, hm3, -⟩ := id hMS3
    refine v_istore (pc' := 1194) (i := 6) (L' := [(6, .int (nI (Ds 0).2.1)), (5, .int (nI 0)), (4, .int (nI i)), (3, .ref out), (2, .ref m), (1, .ref x), (0, .ref sb)]) F dL_law_1192  (by decide) rfl rfl ?_
    refine v_aload_n (pc' := 1195) F dL_law_1194 rfl (j := 4) rfl rfl ?_
    refine v_callV (pc' := 1198) (rt := (some .int)) (mcc := 0) (msc := 0) (As := []) (st := []) F (fun l => c_X7_thrown G z0 l hm3) gL_law_X7_thrown rfl hv_X7_thrown (by decide) (by decide) hm3 rfl rfl rfl (Nat.le_of_ble_eq_true rfl) (by omega) (by omega) dL_law_1195 rfl (fun v3 h1 hqt => ?_)
    obtain ⟨rfl, rfl⟩ := hqt
    refine v_iload (pc' := 1200) F dL_law_1198  (j := 1) rfl rfl ?_
    refine w_icmp_eq (tgt := 1205) (pc' := 1203) F (by omega) (by omega) dL_law_1200 (by decide) rfl (fun _ => ?_) (fun c0 => absurd c0 (by omega))
    refine v_iload (pc' := 1207) F dL_law_1205  (j := 1) rfl rfl ?_
    refine w_if_ne (tgt := 1222) (pc' := 1210) F (by omega) dL_law_1207 (by decide) rfl (fun c0 => absurd c0 (by omega)) (fun _ => ?_)
    refine v_aload_n (pc' := 1211) F dL_law_1210 rfl (j := 3) rfl rfl ?_
    refine v_iconst (pc' := 1212) (v := nI 0) F dL_law_1211 (by decide) rfl ?_
    refine w_lald (pc' := 1213) (v := (nI (Ds 0).2.1).toInt64) F ho3 (by omega) (by omega) hg0 dL_law_1212 rfl ?_
    refine v_iload (pc' := 1215) F dL_law_1213  (j := 0) rfl rfl ?_
    refine v_i2l (pc' := 1216) (v := (nI (Ds 0).2.1).toInt64) F dL_law_1215 rfl rfl ?_
    refine v_lcmp (pc' := 1217) F dL_law_1216 rfl ?_
    refine v_if_eq (tgt := 1222) (pc' := 1220) F dL_law_1217 (by decide) rfl (fun _ => ?_) (fun c0 => absurd (lg_self _) c0)
    refine v_goto (tgt := 1252) F dL_law_1222 (by decide) ?_
    refine v_sub (L' := [(4, .int (nI i)), (3, .ref out), (2, .ref m), (1, .ref x), (0, .ref sb)]) [2, 3, 4, 5, 6] rfl ?_
    exact K _ _ _ (by omega) (by omega) ⟨t, bl, off, _, _, ((now + 1) % 9), _, g9, hC3, ⟨_, len2, spot2, fa2, num2, frm2, may2, RN, A2, T2, hMS3, Nat.mod_lt _ (by omega), ha3, ht3, hT2, sl_chg hnow2 (fun i hi => (hDs i hi).1) hsl2 hSN hON⟩, hAP, ho3⟩
  · obtain ⟨hP9, hs1, f1⟩ := hx1
    obtain ⟨hC1, hM1, ho1⟩ := LI.q hCI hMI hAP ho hs1 f1
    obtain ⟨rfl, hno⟩ := hP9
    have hkc : kc = 1 := by rw [← hec]; decide
    subst hkc
    obtain ⟨th2, len2, spot2, fa2, num2, frm2, may2, R2, A2, T2, hMS2, hnow2, hasd2, htext2, hT2, hsl2⟩ := id hM1
    have hS2 : slD R2 (330 * now) (Ds 0) := by have h0 := hsl2 0 (Nat.zero_le _); rwa [show (now + 9 - 0) % 9 = now by omega] at h0
    obtain ⟨_, _, _, _, _, _, hm2, -⟩ := id hMS2
    refine v_istore (pc' := 1182) (i := 5) (L' := [(5, .int (nI 1)), (4, .int (nI i)), (3, .ref out), (2, .ref m), (1, .ref x), (0, .ref sb)]) F dL_law_1180  (by decide) rfl rfl ?_
    refine v_aload_n (pc' := 1183) F dL_law_1182 rfl (j := 3) rfl rfl ?_
    refine v_aload_n (pc' := 1184) F dL_law_1183 rfl (j := 5) rfl rfl ?_
    refine v_iload (pc' := 1186) F dL_law_1184  (j := 1) rfl rfl ?_
    refine v_iconst (pc' := 1187) (v := nI 1) F dL_law_1186 (by decide) rfl ?_
    refine v_iadd (pc' := 1188) (v := nI (i + 1)) F dL_law_1187 (nI_add i 1) rfl ?_
    refine w_sld (pc' := 1189) (j := i + 1) F hSc (by omega) (by omega) hw1 dL_law_1188 rfl ?_
    refine v_callV (pc' := 1192) (rt := (some .int)) (mcc := 0) (msc := 0) (As := [.int w1]) (st := []) F (fun l => o1_X7_rule G z0 l hMS2 hnow2 w9 hS2 w1 hno) gL_law_X7_rule rfl hv_X7_rule (by decide) (by decide) hm2 rfl rfl rfl (Nat.le_of_ble_eq_true rfl) (by omega) (by omega) dL_law_1189 rfl (fun v5 h4 hqm => ?_)
    obtain ⟨⟨y9, rfl⟩, hMS3, fQ⟩ := hqm
    obtain ⟨hC3, ho3⟩ := LI.m hC1 hM1 hAP ho1 (sub_q m rows asd vals many way told oth lst text) fQ
    obtain ⟨ha3, ht3⟩ := mS.at hMS2 hasd2 htext2 fQ
    obtain ⟨_, _, _, _, _, _, hm3, -⟩ := id hMS3
    refine v_istore (pc' := 1194) (i := 6) (L' := [(6, .int y9), (5, .int (nI 1)), (4, .int (nI i)), (3, .ref out), (2, .ref m), (1, .ref x), (0, .ref sb)]) F dL_law_1192  (by decide) rfl rfl ?_
    refine v_aload_n (pc' := 1195) F dL_law_1194 rfl (j := 4) rfl rfl ?_
    refine v_callV (pc' := 1198) (rt := (some .int)) (mcc := 0) (msc := 0) (As := []) (st := []) F (fun l => c_X7_thrown G z0 l hm3) gL_law_X7_thrown rfl hv_X7_thrown (by decide) (by decide) hm3 rfl rfl rfl (Nat.le_of_ble_eq_true rfl) (by omega) (by omega) dL_law_1195 rfl (fun v6 h4 hqt => ?_)
    obtain ⟨rfl, rfl⟩ := hqt
    refine v_iload (pc' := 1200) F dL_law_1198  (j := 1) rfl rfl ?_
    refine w_icmp_eq (tgt := 1205) (pc' := 1203) F (by omega) (by omega) dL_law_1200 (by decide) rfl (fun _ => ?_) (fun c0 => absurd c0 (by omega))
    refine v_iload (pc' := 1207) F dL_law_1205  (j := 1) rfl rfl ?_
    refine w_if_ne (tgt := 1222) (pc' := 1210) F (by omega) dL_law_1207 (by decide) rfl (fun _ => ?_) (fun c0 => absurd c0 (by omega))
    refine v_goto (tgt := 1252) F dL_law_1222 (by decide) ?_
    refine v_sub (L' := [(4, .int (nI i)), (3, .ref out), (2, .ref m), (1, .ref x), (0, .ref sb)]) [2, 3, 4, 5, 6] rfl ?_
    exact K _ _ _ (by omega) (by omega) ⟨t, bl, off, cur, und, now, Ds, g, hC3.more, ⟨_, len2, spot2, fa2, num2, frm2, may2, R2, A2, T2, hMS3, hnow2, ha3, ht3, hT2, hsl2⟩, hAP, ho3⟩

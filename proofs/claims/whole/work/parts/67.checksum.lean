/-! THE REFERENCE: the checksum -/
def tlD (D : Dt) (v : Nat) : Nat → Nat → List Int32
  | 0, _ => []
  | j + 1, k => nOne D.1 id (fun i => (asD D i).head?) (D.2.2.2.2 v) (asD D v).head? v k :: tlD D v j (k + 1)
def taD (D : Dt) : Nat → Nat → List Int32
  | 0, _ => []
  | j + 1, k => if k = 8 then taD D j (k + 1) else nI (nAll D.1 D.2.1 D.2.2.1 id (fun i => (asD D i).head?) D.2.2.2.2 k) :: taD D j (k + 1)
theorem tlD_one (D : Dt) (v : Nat) : tlD D v 11 0 = oneL D.1 id (asD D) D.2.2.2.2 v := rfl
theorem taD_all (D : Dt) : taD D 10 0 = allL D.1 D.2.1 D.2.2.1 id (asD D) D.2.2.2.2 := rfl
theorem mx_m1 (sm : Int64) : mx sm (-1) = 31 * sm + (-1) := rfl
theorem m_X7_joins_cl258 : Cond.constantLong RX7 258 (31) ∈ wsX7_joins := by decide +kernel
set_option maxHeartbeats 4000000 in
set_option maxRecDepth 100000 in
theorem c_X7_joins (G : gG) (z0 : Nat) (l : Launch) {h : gH} (sm k : Int64) : gC G z0 l yX7_joins wsX7_joins 0 0 [.long sm, .long k] h (fun v h' => v = some (.long (31 * sm + k)) ∧ h' = h) 0 0 := by
  refine gC_of (cc := cX7_joins) (nL := 4) (ret := (some .long)) (by decide) rfl (Nat.le_of_ble_eq_true rfl) ?_
  intro X F E _
  change gF G z0 X cX7_joins 4 RX7 wsX7_joins (some .long) "joins" 0 0 _ _ at F
  show gV G z0 X 0 0 h 0 [(0, .long sm), (2, .long k)] []
  refine v_ldc2 (pc' := 3) F m_X7_joins_cl258 dX7_joins_0 rfl ?_
  refine v_lload_n (pc' := 4) F dX7_joins_3 rfl (j := 0) rfl rfl ?_
  refine v_lmul (pc' := 5) (v := 31 * sm) F dX7_joins_4 rfl rfl ?_
  refine v_lload_n (pc' := 6) F dX7_joins_5 rfl (j := 1) rfl rfl ?_
  refine v_ladd (pc' := 7) (v := (31 * sm) + k) F dX7_joins_6 rfl rfl ?_
  exact v_lret F E (by omega) (by omega)  dX7_joins_7 ⟨rfl, rfl⟩
theorem hd_X7_joins : yX7_joins.cls ≠ "java/lang/invoke/MethodHandle" ∧ yX7_joins.cls ≠ "java/lang/invoke/VarHandle" ∧ (parseMethodDescriptor yX7_joins.desc).map (fun d => d.parameters.length) = some 2 := by decide +kernel
set_option maxHeartbeats 4000000 in
set_option maxRecDepth 100000 in
theorem lpT_X7_joinsVersion {G : gG} {z0 : Nat} {X : gX} {l : Launch} {mc ms cells slots j k v : Nat} {h : gH} {m rows asd vals many way told oth lst text now : Nat} {th und fed len spot fa fat num frm may : Int32} {sm s0 : Int64} {R : Nat → Int32} {D : Dt} (F : gF G z0 X cX7_joinsVersion 9 RX7 wsX7_joinsVersion (some .long) "joinsVersion" 6 130 mc ms) (hcc : cells ≤ mc) (hss : slots ≤ ms) (hMS : mS G h m rows asd vals many way told oth lst text th now und fed len spot fa fat num frm may R) (hnow : now < 9) (w9 : wfD D) (hS : slD R (330 * now) D) (hv : v < D.1) (hkj : k + j = 11) (K : ∀ h' : gH, mS G h' m rows asd vals many way told oth lst text th now und fed len spot fa fat num frm may R → gfr [m, vals, many, way, told, oth, lst] h h' → gV G z0 X cells slots h' 34 [(6, .int (nI 11)), (4, .long (mxL sm (tlD D v j k))), (3, .int (nI v)), (1, .long s0), (0, .ref m)] []) : gV G z0 X cells slots h 6 [(6, .int (nI k)), (4, .long sm), (3, .int (nI v)), (1, .long s0), (0, .ref m)] [] := by
  induction j generalizing k sm h with
  | zero =>
    obtain rfl : k = 11 := by omega
    refine v_iload (pc' := 8) F dX7_joinsVersion_6  (j := 0) rfl rfl ?_
    refine v_bipush (pc' := 10) (v := nI 11) F dX7_joinsVersion_8 (by decide) rfl ?_
    refine w_icmp_ge (tgt := 34) (pc' := 13) F (by omega) (by omega) dX7_joinsVersion_10 (by decide) rfl (fun _ => ?_) (fun c0 => absurd c0 (by omega))
    exact K h hMS gfr.rf
  | succ j ih =>
    have hMS0 := hMS
    obtain ⟨fl, rl, kd, ok, st, wm, hm, hrows, ⟨V, hvals⟩, ⟨M, hmany⟩, ⟨W, hway⟩, ⟨f, htold⟩, ⟨g, hoth⟩, ⟨ll, hlst⟩, htw, how, hto⟩ := hMS
    refine v_iload (pc' := 8) F dX7_joinsVersion_6  (j := 0) rfl rfl ?_
    refine v_bipush (pc' := 10) (v := nI 11) F dX7_joinsVersion_8 (by decide) rfl ?_
    refine w_icmp_ge (tgt := 34) (pc' := 13) F (by omega) (by omega) dX7_joinsVersion_10 (by decide) rfl (fun c0 => absurd c0 (by omega)) (fun _ => ?_)
    refine v_lload (pc' := 15) F dX7_joinsVersion_13  (j := 1) rfl rfl ?_
    refine v_aload_n (pc' := 16) F dX7_joinsVersion_15 rfl (j := 4) rfl rfl ?_
    refine v_iload_n (pc' := 17) F dX7_joinsVersion_16 rfl (j := 2) rfl rfl ?_
    refine v_iload (pc' := 19) F dX7_joinsVersion_17  (j := 0) rfl rfl ?_
    refine v_callV (pc' := 22) (rt := (some .int)) (mcc := 0) (msc := 0) (As := [.int (nI v), .int (nI k)]) (st := [.long sm]) F (fun l => c_X7_toldOfVersion G z0 l (k := k) hMS0 hnow w9 hS hv (by omega)) gX7_joinsVersion_X7_toldOfVersion rfl hv_X7_toldOfVersion (by decide) (by decide) hm rfl rfl rfl (Nat.le_of_ble_eq_true rfl) (by omega) (by omega) dX7_joinsVersion_19 rfl (fun v2 h1 hqc => ?_)
    obtain ⟨rfl, hMA, frA⟩ := hqc
    refine v_i2l (pc' := 23) (v := (nOne D.1 id (fun i => (asD D i).head?) (D.2.2.2.2 v) (asD D v).head? v k).toInt64) F dX7_joinsVersion_22 rfl rfl ?_
    refine v_callS (pc' := 26) (rt := (some .long)) (mcc := 0) (msc := 0) (As := [.long sm, .long ((nOne D.1 id (fun i => (asD D i).head?) (D.2.2.2.2 v) (asD D v).head? v k).toInt64)]) (st := []) F (fun l => c_X7_joins G z0 l sm (nOne D.1 id (fun i => (asD D i).head?) (D.2.2.2.2 v) (asD D v).head? v k).toInt64) gX7_joinsVersion_X7_joins rfl hd_X7_joins (by decide) (by decide) rfl rfl (Nat.le_of_ble_eq_true rfl) (by omega) (by omega) dX7_joinsVersion_23 rfl (fun v3 h1 hqj => ?_)
    obtain ⟨rfl, rfl⟩ := hqj
    refine v_lstore (pc' := 28) (i := 4) (L' := [(4, .long (mx sm (nOne D.1 id (fun i => (asD D i).head?) (D.2.2.2.2 v) (asD D v).head? v k))), (6, .int (nI k)), (3, .int (nI v)), (1, .long s0), (0, .ref m)]) F dX7_joinsVersion_26  (by decide) rfl rfl ?_
    refine v_iinc (pc' := 31) (j := 1) (x := nI k) (v := nI (k + 1)) (L' := [(6, .int (nI (k + 1))), (4, .long (mx sm (nOne D.1 id (fun i => (asD D i).head?) (D.2.2.2.2 v) (asD D v).head? v k))), (3, .int (nI v)), (1, .long s0), (0, .ref m)]) F dX7_joinsVersion_28 rfl (nI_add k 1) (by decide) rfl rfl ?_
    refine v_goto (tgt := 6) F dX7_joinsVersion_31 (by decide) ?_
    have fr4 : gfr [m, vals, many, way, told, oth, lst] h h1 := frA
    refine v_sub (L' := [(6, .int (nI (k + 1))), (4, .long (mx sm (nOne D.1 id (fun i => (asD D i).head?) (D.2.2.2.2 v) (asD D v).head? v k))), (3, .int (nI v)), (1, .long s0), (0, .ref m)]) [0, 1, 2, 3, 4] rfl ?_
    exact ih (k := k + 1) hMA (by omega) (fun hA a1 a2 => K hA a1 (gfr.t fr4 a2))
theorem k_X7_joinsVersion_7 : gCl wsX7_joinsVersion 7 RX7 TX7 26 := ⟨by decide +kernel, rfl⟩
theorem m_X7_joinsVersion_f25 : Cond.fieldLink RX7 25 "SteadyQueuesModel" "told" "[I" ∈ wsX7_joinsVersion := by decide +kernel
set_option maxHeartbeats 4000000 in
set_option maxRecDepth 100000 in
theorem lpV_X7_joinsVersion {G : gG} {z0 : Nat} {X : gX} {l : Launch} {mc ms cells slots k v N : Nat} {h : gH} {m rows asd vals many way told oth lst text : Nat} {th now und fl rl kd ok st wm fed len spot fa fat num frm may : Int32} {sm s0 : Int64} {f : Nat → Int32} {ys : List Int32} (F : gF G z0 X cX7_joinsVersion 9 RX7 wsX7_joinsVersion (some .long) "joinsVersion" 6 130 mc ms) (hcc : cells ≤ mc) (hss : slots ≤ ms) (hm : h m = some (.inr (7, [.int th, .ref rows, .ref asd, .int now, .int und, .ref vals, .ref many, .int fl, .int rl, .int kd, .int ok, .int st, .ref way, .int wm, .ref told, .ref oth, .ref lst, .ref text, .int fed, .int len, .int spot, .int fa, .int fat, .int num, .int frm, .int may]))) (htold : h told = some (oI G 64 f)) (hkn : k + ys.length = N) (hN : N ≤ 64) (hf : ∀ i, i < ys.length → f (k + i) = ys.getD i 0) (K : gV G z0 X cells slots h 72 [(7, .int (nI N)), (6, .int (nI N)), (4, .long (mxL sm ys)), (3, .int (nI v)), (1, .long s0), (0, .ref m)] []) : gV G z0 X cells slots h 44 [(7, .int (nI k)), (6, .int (nI N)), (4, .long sm), (3, .int (nI v)), (1, .long s0), (0, .ref m)] [] := by
  induction ys generalizing k sm with
  | nil =>
    rw [List.length_nil] at hkn
    obtain rfl : k = N := by omega
    refine v_iload (pc' := 46) F dX7_joinsVersion_44  (j := 0) rfl rfl ?_
    refine v_iload (pc' := 48) F dX7_joinsVersion_46  (j := 1) rfl rfl ?_
    refine w_icmp_ge (tgt := 72) (pc' := 51) F (by omega) (by omega) dX7_joinsVersion_48 (by decide) rfl (fun _ => ?_) (fun c0 => absurd c0 (by omega))
    exact K
  | cons y ys ih =>
    rw [List.length_cons] at hkn
    have hy := hf 0 (by simp)
    rw [Nat.add_zero] at hy
    change _ = y at hy
    refine v_iload (pc' := 46) F dX7_joinsVersion_44  (j := 0) rfl rfl ?_
    refine v_iload (pc' := 48) F dX7_joinsVersion_46  (j := 1) rfl rfl ?_
    refine w_icmp_ge (tgt := 72) (pc' := 51) F (by omega) (by omega) dX7_joinsVersion_48 (by decide) rfl (fun c0 => absurd c0 (by omega)) (fun _ => ?_)
    refine v_lload (pc' := 53) F dX7_joinsVersion_51  (j := 2) rfl rfl ?_
    refine v_aload_n (pc' := 54) F dX7_joinsVersion_53 rfl (j := 5) rfl rfl ?_
    refine v_getf (pc' := 57) (v := .ref told) F k_X7_joinsVersion_7 hm 14 (by decide) m_X7_joinsVersion_f25 rfl dX7_joinsVersion_54 rfl ?_
    refine v_iload (pc' := 59) F dX7_joinsVersion_57  (j := 0) rfl rfl ?_
    refine w_iald (pc' := 60) (v := y) F htold (by omega) (by omega) hy dX7_joinsVersion_59 rfl ?_
    refine v_i2l (pc' := 61) (v := (y).toInt64) F dX7_joinsVersion_60 rfl rfl ?_
    refine v_callS (pc' := 64) (rt := (some .long)) (mcc := 0) (msc := 0) (As := [.long sm, .long ((y).toInt64)]) (st := []) F (fun l => c_X7_joins G z0 l sm (y).toInt64) gX7_joinsVersion_X7_joins rfl hd_X7_joins (by decide) (by decide) rfl rfl (Nat.le_of_ble_eq_true rfl) (by omega) (by omega) dX7_joinsVersion_61 rfl (fun v1 h hqj => ?_)
    obtain ⟨rfl, rfl⟩ := hqj
    refine v_lstore (pc' := 66) (i := 4) (L' := [(4, .long (mx sm y)), (7, .int (nI k)), (6, .int (nI N)), (3, .int (nI v)), (1, .long s0), (0, .ref m)]) F dX7_joinsVersion_64  (by decide) rfl rfl ?_
    refine v_iinc (pc' := 69) (j := 1) (x := nI k) (v := nI (k + 1)) (L' := [(7, .int (nI (k + 1))), (4, .long (mx sm y)), (6, .int (nI N)), (3, .int (nI v)), (1, .long s0), (0, .ref m)]) F dX7_joinsVersion_66 rfl (nI_add k 1) (by decide) rfl rfl ?_
    refine v_goto (tgt := 44) F dX7_joinsVersion_69 (by decide) ?_
    refine v_sub (L' := [(7, .int (nI (k + 1))), (6, .int (nI N)), (4, .long (mx sm y)), (3, .int (nI v)), (1, .long s0), (0, .ref m)]) [0, 2, 1, 3, 4, 5] rfl ?_
    exact ih (k := k + 1) (by omega) (fun i hi => by have := hf (i + 1) (by rw [List.length_cons]; omega); rw [show k + 1 + i = k + (i + 1) by omega]; exact this) K
theorem m_X7_joinsVersion_f16 : Cond.fieldLink RX7 16 "SteadyQueuesModel" "values" "[I" ∈ wsX7_joinsVersion := by decide +kernel
set_option maxHeartbeats 4000000 in
set_option maxRecDepth 100000 in
theorem lpI_X7_joinsVersion {G : gG} {z0 : Nat} {X : gX} {l : Launch} {mc ms cells slots v N L : Nat} {h : gH} {m rows asd vals many way told oth lst text : Nat} {th now und fl rl kd ok st wm fed len spot fa fat num frm may : Int32} {sm s0 : Int64} {V : Nat → Int32} {y : Int32} {ys : List Int32} (F : gF G z0 X cX7_joinsVersion 9 RX7 wsX7_joinsVersion (some .long) "joinsVersion" 6 130 mc ms) (hcc : cells ≤ mc) (hss : slots ≤ ms) (hm : h m = some (.inr (7, [.int th, .ref rows, .ref asd, .int now, .int und, .ref vals, .ref many, .int fl, .int rl, .int kd, .int ok, .int st, .ref way, .int wm, .ref told, .ref oth, .ref lst, .ref text, .int fed, .int len, .int spot, .int fa, .int fat, .int num, .int frm, .int may]))) (hvals : h vals = some (oI G 384 V)) (hL : L < 6) (hV : ∀ i, i < (y :: ys).length → V (64 * L + (ys.length - i)) = (y :: ys).getD i 0) (hl9 : (y :: ys).length ≤ 64) (K : gV G z0 X cells slots h 129 [(8, .int (-1)), (7, .int (nI L)), (6, .int (nI N)), (4, .long (mxL sm (y :: ys))), (3, .int (nI v)), (1, .long s0), (0, .ref m)] []) : gV G z0 X cells slots h 97 [(8, .int (nI ys.length)), (7, .int (nI L)), (6, .int (nI N)), (4, .long sm), (3, .int (nI v)), (1, .long s0), (0, .ref m)] [] := by
  induction ys generalizing y sm with
  | nil =>
    show gV G z0 X cells slots h 97 [(8, .int (nI 0)), (7, .int (nI L)), (6, .int (nI N)), (4, .long sm), (3, .int (nI v)), (1, .long s0), (0, .ref m)] []
    have hy := hV 0 (by simp)
    change _ = y at hy
    refine v_iload (pc' := 99) F dX7_joinsVersion_97  (j := 0) rfl rfl ?_
    refine w_if_lt (tgt := 129) (pc' := 102) F (by omega) dX7_joinsVersion_99 (by decide) rfl (fun c0 => absurd c0 (by omega)) (fun _ => ?_)
    refine v_lload (pc' := 104) F dX7_joinsVersion_102  (j := 3) rfl rfl ?_
    refine v_aload_n (pc' := 105) F dX7_joinsVersion_104 rfl (j := 6) rfl rfl ?_
    refine v_getf (pc' := 108) (v := .ref vals) F k_X7_joinsVersion_7 hm 5 (by decide) m_X7_joinsVersion_f16 rfl dX7_joinsVersion_105 rfl ?_
    refine v_bipush (pc' := 110) (v := nI 64) F dX7_joinsVersion_108 (by decide) rfl ?_
    refine v_iload (pc' := 112) F dX7_joinsVersion_110  (j := 1) rfl rfl ?_
    refine v_imul (pc' := 113) (v := nI (64 * L)) F dX7_joinsVersion_112 (pk_mul 64 L) rfl ?_
    refine v_iload (pc' := 115) F dX7_joinsVersion_113  (j := 0) rfl rfl ?_
    refine v_iadd (pc' := 116) (v := nI (64 * L)) F dX7_joinsVersion_115 (g_eqn (nI_add (64 * L) 0) (by omega)) rfl ?_
    refine w_iald (pc' := 117) (v := y) F hvals (by omega) (by omega) hy dX7_joinsVersion_116 rfl ?_
    refine v_i2l (pc' := 118) (v := (y).toInt64) F dX7_joinsVersion_117 rfl rfl ?_
    refine v_callS (pc' := 121) (rt := (some .long)) (mcc := 0) (msc := 0) (As := [.long sm, .long ((y).toInt64)]) (st := []) F (fun l => c_X7_joins G z0 l sm (y).toInt64) gX7_joinsVersion_X7_joins rfl hd_X7_joins (by decide) (by decide) rfl rfl (Nat.le_of_ble_eq_true rfl) (by omega) (by omega) dX7_joinsVersion_118 rfl (fun v1 h hqj => ?_)
    obtain ⟨rfl, rfl⟩ := hqj
    refine v_lstore (pc' := 123) (i := 4) (L' := [(4, .long (mx sm y)), (8, .int (nI 0)), (7, .int (nI L)), (6, .int (nI N)), (3, .int (nI v)), (1, .long s0), (0, .ref m)]) F dX7_joinsVersion_121  (by decide) rfl rfl ?_
    refine v_iinc (pc' := 126) (j := 1) (x := nI 0) (v := (-1)) (L' := [(8, .int (-1)), (4, .long (mx sm y)), (7, .int (nI L)), (6, .int (nI N)), (3, .int (nI v)), (1, .long s0), (0, .ref m)]) F dX7_joinsVersion_123 rfl (by decide) (by decide) rfl rfl ?_
    refine v_goto (tgt := 97) F dX7_joinsVersion_126 (by decide) ?_
    refine v_iload (pc' := 99) F dX7_joinsVersion_97  (j := 0) rfl rfl ?_
    refine v_if_lt (tgt := 129) (pc' := 102) F dX7_joinsVersion_99 (by decide) rfl (fun _ => ?_) (fun c0 => absurd (by decide) c0)
    refine v_sub (L' := [(8, .int (-1)), (7, .int (nI L)), (6, .int (nI N)), (4, .long (mx sm y)), (3, .int (nI v)), (1, .long s0), (0, .ref m)]) [0, 2, 3, 1, 4, 5, 6] rfl ?_
    exact K
  | cons y2 ys ih =>
    have hl9b : ys.length + 1 + 1 ≤ 64 := hl9
    show gV G z0 X cells slots h 97 [(8, .int (nI (ys.length + 1))), (7, .int (nI L)), (6, .int (nI N)), (4, .long sm), (3, .int (nI v)), (1, .long s0), (0, .ref m)] []
    have hy := hV 0 (by simp)
    change _ = y at hy
    refine v_iload (pc' := 99) F dX7_joinsVersion_97  (j := 0) rfl rfl ?_
    refine w_if_lt (tgt := 129) (pc' := 102) F (by omega) dX7_joinsVersion_99 (by decide) rfl (fun c0 => absurd c0 (by omega)) (fun _ => ?_)
    refine v_lload (pc' := 104) F dX7_joinsVersion_102  (j := 3) rfl rfl ?_
    refine v_aload_n (pc' := 105) F dX7_joinsVersion_104 rfl (j := 6) rfl rfl ?_
    refine v_getf (pc' := 108) (v := .ref vals) F k_X7_joinsVersion_7 hm 5 (by decide) m_X7_joinsVersion_f16 rfl dX7_joinsVersion_105 rfl ?_
    refine v_bipush (pc' := 110) (v := nI 64) F dX7_joinsVersion_108 (by decide) rfl ?_
    refine v_iload (pc' := 112) F dX7_joinsVersion_110  (j := 1) rfl rfl ?_
    refine v_imul (pc' := 113) (v := nI (64 * L)) F dX7_joinsVersion_112 (pk_mul 64 L) rfl ?_
    refine v_iload (pc' := 115) F dX7_joinsVersion_113  (j := 0) rfl rfl ?_
    refine v_iadd (pc' := 116) (v := nI (64 * L + (ys.length + 1))) F dX7_joinsVersion_115 (nI_add (64 * L) (ys.length + 1)) rfl ?_
    refine w_iald (pc' := 117) (v := y) F hvals (by omega) (by omega) hy dX7_joinsVersion_116 rfl ?_
    refine v_i2l (pc' := 118) (v := (y).toInt64) F dX7_joinsVersion_117 rfl rfl ?_
    refine v_callS (pc' := 121) (rt := (some .long)) (mcc := 0) (msc := 0) (As := [.long sm, .long ((y).toInt64)]) (st := []) F (fun l => c_X7_joins G z0 l sm (y).toInt64) gX7_joinsVersion_X7_joins rfl hd_X7_joins (by decide) (by decide) rfl rfl (Nat.le_of_ble_eq_true rfl) (by omega) (by omega) dX7_joinsVersion_118 rfl (fun v1 h hqj => ?_)
    obtain ⟨rfl, rfl⟩ := hqj
    refine v_lstore (pc' := 123) (i := 4) (L' := [(4, .long (mx sm y)), (8, .int (nI (ys.length + 1))), (7, .int (nI L)), (6, .int (nI N)), (3, .int (nI v)), (1, .long s0), (0, .ref m)]) F dX7_joinsVersion_121  (by decide) rfl rfl ?_
    refine v_iinc (pc' := 126) (j := 1) (x := nI (ys.length + 1)) (v := nI ys.length) (L' := [(8, .int (nI ys.length)), (4, .long (mx sm y)), (7, .int (nI L)), (6, .int (nI N)), (3, .int (nI v)), (1, .long s0), (0, .ref m)]) F dX7_joinsVersion_123 rfl (g_dec (by omega)) (by decide) rfl rfl ?_
    refine v_goto (tgt := 97) F dX7_joinsVersion_126 (by decide) ?_
    refine v_sub (L' := [(8, .int (nI ys.length)), (7, .int (nI L)), (6, .int (nI N)), (4, .long (mx sm y)), (3, .int (nI v)), (1, .long s0), (0, .ref m)]) [0, 2, 3, 1, 4, 5, 6] rfl ?_
    exact ih (y := y2) (fun i hi => by have hi2 : i < ys.length + 1 := hi; have := hV (i + 1) (show i + 1 < ys.length + 1 + 1 by omega); rw [show 64 * L + (ys.length - i) = 64 * L + ((y2 :: ys).length - (i + 1)) by rw [List.length_cons]; omega]; exact this) (show ys.length + 1 ≤ 64 by omega) K
theorem m_X7_joinsVersion_cl264 : Cond.constantLong RX7 264 (-1) ∈ wsX7_joinsVersion := by decide +kernel
set_option maxHeartbeats 4000000 in
set_option maxRecDepth 100000 in
theorem lpL_X7_joinsVersion {G : gG} {z0 : Nat} {X : gX} {l : Launch} {post : Option Value → gH → Prop} {mc ms cells slots j v N L : Nat} {h : gH} {m rows asd vals many way told oth lst text : Nat} {th now und fl rl ok st wm fed len spot fa fat num frm may : Int32} {sm s0 : Int64} {q : mQ} {V M : Nat → Int32} {ls : Nat → List Int32} (F : gF G z0 X cX7_joinsVersion 9 RX7 wsX7_joinsVersion (some .long) "joinsVersion" 6 130 mc ms) (E : gE G z0 X post mc ms) (hcc : cells ≤ mc) (hss : slots ≤ ms) (hm : h m = some (.inr (7, [.int th, .ref rows, .ref asd, .int now, .int und, .ref vals, .ref many, .int fl, .int rl, .int (nI q.2.2.2.2.1), .int ok, .int st, .ref way, .int wm, .ref told, .ref oth, .ref lst, .ref text, .int fed, .int len, .int spot, .int fa, .int fat, .int num, .int frm, .int may]))) (hvals : h vals = some (oI G 384 V)) (hmany : h many = some (oI G 6 M)) (hls : mdL V M ls) (hLs : ∀ L, L < 6 → ls L = qList q (L + 1)) (hkd : q.2.2.2.2.1 < 4) (h00 : q.2.2.2.2.1 = 2 → ls 2 = [] ∧ ls 4 = []) (hkj : L + j = 6) (hp : post (some (.long (mxL sm (lsQ q j (L + 1))))) h) : gV G z0 X cells slots h 80 [(7, .int (nI L)), (6, .int (nI N)), (4, .long sm), (3, .int (nI v)), (1, .long s0), (0, .ref m)] [] := by
  induction j generalizing L sm with
  | zero =>
    obtain rfl : L = 6 := by omega
    refine v_iload (pc' := 82) F dX7_joinsVersion_80  (j := 0) rfl rfl ?_
    refine v_bipush (pc' := 84) (v := nI 6) F dX7_joinsVersion_82 (by decide) rfl ?_
    refine w_icmp_ge (tgt := 145) (pc' := 87) F (by omega) (by omega) dX7_joinsVersion_84 (by decide) rfl (fun _ => ?_) (fun c0 => absurd c0 (by omega))
    refine v_lload (pc' := 147) F dX7_joinsVersion_145  (j := 2) rfl rfl ?_
    exact v_lret F E (by omega) (by omega)  dX7_joinsVersion_147 hp
  | succ j ih =>
    have hL6 : L < 6 := by omega
    have hLe := hLs L hL6
    have hMb := (hls L hL6).2.1
    rw [hLe] at hMb
    refine v_iload (pc' := 82) F dX7_joinsVersion_80  (j := 0) rfl rfl ?_
    refine v_bipush (pc' := 84) (v := nI 6) F dX7_joinsVersion_82 (by decide) rfl ?_
    refine w_icmp_ge (tgt := 145) (pc' := 87) F (by omega) (by omega) dX7_joinsVersion_84 (by decide) rfl (fun c0 => absurd c0 (by omega)) (fun _ => ?_)
    refine v_aload_n (pc' := 88) F dX7_joinsVersion_87 rfl (j := 5) rfl rfl ?_
    refine v_iload (pc' := 90) F dX7_joinsVersion_88  (j := 0) rfl rfl ?_
    refine v_callV (pc' := 93) (rt := (some .int)) (mcc := 0) (msc := 0) (As := [.int (nI L)]) (st := []) F (fun l => c_X7_manyIn G z0 l (V := V) (L := L) hm hmany hls hL6 hkd (fun z1 z2 => by rcases z2 with rfl | rfl; exact (h00 z1).1; exact (h00 z1).2)) gX7_joinsVersion_X7_manyIn rfl hv_X7_manyIn (by decide) (by decide) hm rfl rfl rfl (Nat.le_of_ble_eq_true rfl) (by omega) (by omega) dX7_joinsVersion_90 rfl (fun v1 h hqm => ?_)
    rw [hLe] at hqm; obtain ⟨rfl, rfl⟩ := hqm
    have htop := fun (k : Nat) (hk : k < (ls L).length) => hls.top (L := L) (k := k) hL6 hk
    rw [hLe] at htop
    have hlq : lsQ q (j + 1) (L + 1) = (qList q (L + 1)) ++ (-1 :: lsQ q j (L + 1 + 1)) := rfl
    rw [hlq] at hp
    generalize (qList q (L + 1)) = zs at *
    cases zs with
    | nil =>
      show gV G z0 X cells slots h 93 [(7, .int (nI L)), (6, .int (nI N)), (4, .long sm), (3, .int (nI v)), (1, .long s0), (0, .ref m)] [.int (nI 0)]
      refine v_iconst (pc' := 94) (v := nI 1) F dX7_joinsVersion_93 (by decide) rfl ?_
      refine v_isub (pc' := 95) (v := (-1)) F dX7_joinsVersion_94 (by decide) rfl ?_
      refine v_istore (pc' := 97) (i := 8) (L' := [(8, .int (-1)), (7, .int (nI L)), (6, .int (nI N)), (4, .long sm), (3, .int (nI v)), (1, .long s0), (0, .ref m)]) F dX7_joinsVersion_95  (by decide) rfl rfl ?_
      refine v_iload (pc' := 99) F dX7_joinsVersion_97  (j := 0) rfl rfl ?_
      refine v_if_lt (tgt := 129) (pc' := 102) F dX7_joinsVersion_99 (by decide) rfl (fun _ => ?_) (fun c0 => absurd (by decide) c0)
      refine v_lload (pc' := 131) F dX7_joinsVersion_129  (j := 3) rfl rfl ?_
      refine v_ldc2 (pc' := 134) F m_X7_joinsVersion_cl264 dX7_joinsVersion_131 rfl ?_
      refine v_callS (pc' := 137) (rt := (some .long)) (mcc := 0) (msc := 0) (As := [.long sm, .long (-1)]) (st := []) F (fun l => c_X7_joins G z0 l sm (-1)) gX7_joinsVersion_X7_joins rfl hd_X7_joins (by decide) (by decide) rfl rfl (Nat.le_of_ble_eq_true rfl) (by omega) (by omega) dX7_joinsVersion_134 rfl (fun v2 h hqj => ?_)
      obtain ⟨rfl, rfl⟩ := hqj
      refine v_lstore (pc' := 139) (i := 4) (L' := [(4, .long (mx sm (-1))), (8, .int (-1)), (7, .int (nI L)), (6, .int (nI N)), (3, .int (nI v)), (1, .long s0), (0, .ref m)]) F dX7_joinsVersion_137  (by decide) rfl rfl ?_
      refine v_iinc (pc' := 142) (j := 2) (x := nI L) (v := nI (L + 1)) (L' := [(7, .int (nI (L + 1))), (4, .long (mx sm (-1))), (8, .int (-1)), (6, .int (nI N)), (3, .int (nI v)), (1, .long s0), (0, .ref m)]) F dX7_joinsVersion_139 rfl (nI_add L 1) (by decide) rfl rfl ?_
      refine v_goto (tgt := 80) F dX7_joinsVersion_142 (by decide) ?_
      refine v_sub (L' := [(7, .int (nI (L + 1))), (6, .int (nI N)), (4, .long (mx sm (-1))), (3, .int (nI v)), (1, .long s0), (0, .ref m)]) [0, 3, 1, 4, 5, 6] rfl ?_
      rw [List.nil_append, mxL_cons] at hp
      exact ih (L := L + 1) (by omega) hp
    | cons y ys =>
      have hyl : (y :: ys).length = ys.length + 1 := rfl
      rw [hyl] at hMb htop
      show gV G z0 X cells slots h 93 [(7, .int (nI L)), (6, .int (nI N)), (4, .long sm), (3, .int (nI v)), (1, .long s0), (0, .ref m)] [.int (nI (ys.length + 1))]
      refine v_iconst (pc' := 94) (v := nI 1) F dX7_joinsVersion_93 (by decide) rfl ?_
      refine v_isub (pc' := 95) (v := nI ys.length) F dX7_joinsVersion_94 (g_subn (by omega) (by omega)) rfl ?_
      refine v_istore (pc' := 97) (i := 8) (L' := [(8, .int (nI ys.length)), (7, .int (nI L)), (6, .int (nI N)), (4, .long sm), (3, .int (nI v)), (1, .long s0), (0, .ref m)]) F dX7_joinsVersion_95  (by decide) rfl rfl ?_
      refine v_sub (L' := [(8, .int (nI ys.length)), (7, .int (nI L)), (6, .int (nI N)), (4, .long sm), (3, .int (nI v)), (1, .long s0), (0, .ref m)]) [0, 1, 2, 3, 4, 5, 6] rfl ?_
      refine lpI_X7_joinsVersion (l := l) F (by omega) (by omega) hm hvals hL6 (fun i hi => by have := htop i (by rw [hyl] at hi; exact hi); rw [Nat.add_sub_cancel] at this; exact this) (by rw [hyl]; exact hMb) ?_
      refine v_lload (pc' := 131) F dX7_joinsVersion_129  (j := 3) rfl rfl ?_
      refine v_ldc2 (pc' := 134) F m_X7_joinsVersion_cl264 dX7_joinsVersion_131 rfl ?_
      refine v_callS (pc' := 137) (rt := (some .long)) (mcc := 0) (msc := 0) (As := [.long (mxL sm (y :: ys)), .long (-1)]) (st := []) F (fun l => c_X7_joins G z0 l (mxL sm (y :: ys)) (-1)) gX7_joinsVersion_X7_joins rfl hd_X7_joins (by decide) (by decide) rfl rfl (Nat.le_of_ble_eq_true rfl) (by omega) (by omega) dX7_joinsVersion_134 rfl (fun v3 h hqj => ?_)
      obtain ⟨rfl, rfl⟩ := hqj
      refine v_lstore (pc' := 139) (i := 4) (L' := [(4, .long (mx (mxL sm (y :: ys)) (-1))), (8, .int (-1)), (7, .int (nI L)), (6, .int (nI N)), (3, .int (nI v)), (1, .long s0), (0, .ref m)]) F dX7_joinsVersion_137  (by decide) rfl rfl ?_
      refine v_iinc (pc' := 142) (j := 2) (x := nI L) (v := nI (L + 1)) (L' := [(7, .int (nI (L + 1))), (4, .long (mx (mxL sm (y :: ys)) (-1))), (8, .int (-1)), (6, .int (nI N)), (3, .int (nI v)), (1, .long s0), (0, .ref m)]) F dX7_joinsVersion_139 rfl (nI_add L 1) (by decide) rfl rfl ?_
      refine v_goto (tgt := 80) F dX7_joinsVersion_142 (by decide) ?_
      refine v_sub (L' := [(7, .int (nI (L + 1))), (6, .int (nI N)), (4, .long (mx (mxL sm (y :: ys)) (-1))), (3, .int (nI v)), (1, .long s0), (0, .ref m)]) [0, 3, 1, 4, 5, 6] rfl ?_
      rw [mxL_app, mxL_cons] at hp
      exact ih (L := L + 1) (by omega) hp
set_option maxHeartbeats 4000000 in
set_option maxRecDepth 100000 in
theorem c_X7_joinsVersion (G : gG) (z0 : Nat) (l : Launch) {h : gH} {m rows asd vals many way told oth lst text now : Nat} {th und fed len spot fa fat num frm may : Int32} {R : Nat → Int32} {D : Dt} {v : Nat} (s0 : Int64) (hMS : mS G h m rows asd vals many way told oth lst text th now und fed len spot fa fat num frm may R) (hnow : now < 9) (w9 : wfD D) (hS : slD R (330 * now) D) (hv : v < D.1) : gC G z0 l yX7_joinsVersion wsX7_joinsVersion 6 130 [.ref m, .long s0, .int (nI v)] h (fun o h' => o = some (.long (mxL s0 ((oneL D.1 id (asD D) D.2.2.2.2 v) ++ lsV (D.2.2.2.2 v)))) ∧ mS G h' m rows asd vals many way told oth lst text th now und fed len spot fa fat num frm may R ∧ gfr [m, vals, many, way, told, oth, lst] h h') 0 0 := by
  have hMS0 := hMS
  obtain ⟨fl, rl, kd, ok, st, wm, hm, hrows, ⟨V, hvals⟩, ⟨M, hmany⟩, ⟨W, hway⟩, ⟨f, htold⟩, ⟨g, hoth⟩, ⟨ll, hlst⟩, htw, how, hto⟩ := hMS
  have hOv := w9.os hv
  have hJ := qOf_J hOv.1
  have hkd9 := kd_lt hOv.1 hOv.2
  have hwl := wVals_lt w9 hv
  refine gC_of (cc := cX7_joinsVersion) (nL := 9) (ret := (some .long)) (by decide) rfl (Nat.le_of_ble_eq_true rfl) ?_
  intro X F E _
  change gF G z0 X cX7_joinsVersion 9 RX7 wsX7_joinsVersion (some .long) "joinsVersion" 6 130 _ _ at F
  show gV G z0 X 0 0 h 0 [(0, .ref m), (1, .long s0), (3, .int (nI v))] []
  refine v_lload_n (pc' := 1) F dX7_joinsVersion_0 rfl (j := 1) rfl rfl ?_
  refine v_lstore (pc' := 3) (i := 4) (L' := [(4, .long s0), (0, .ref m), (1, .long s0), (3, .int (nI v))]) F dX7_joinsVersion_1  (by decide) rfl rfl ?_
  refine v_iconst (pc' := 4) (v := nI 0) F dX7_joinsVersion_3 (by decide) rfl ?_
  refine v_istore (pc' := 6) (i := 6) (L' := [(6, .int (nI 0)), (4, .long s0), (0, .ref m), (1, .long s0), (3, .int (nI v))]) F dX7_joinsVersion_4  (by decide) rfl rfl ?_
  refine v_sub (L' := [(6, .int (nI 0)), (4, .long s0), (3, .int (nI v)), (1, .long s0), (0, .ref m)]) [0, 1, 4, 3, 2] rfl ?_
  refine lpT_X7_joinsVersion (l := l) (k := 0) (j := 11) F (by omega) (by omega) hMS0 hnow w9 hS hv (by omega) (fun h1 hM1 fr1 => ?_)
  rw [tlD_one]
  have hM1b := hM1
  obtain ⟨fl4, rl4, kd4, ok4, st4, wm4, hm4, hrows4, ⟨V4, hvals4⟩, ⟨M4, hmany4⟩, ⟨W4, hway4⟩, ⟨f4, htold4⟩, ⟨g4, hoth4⟩, ⟨ll4, hlst4⟩, -, -, -⟩ := hM1
  show gV G z0 X 0 0 h1 34 [(6, .int (nI 11)), (4, .long (mxL s0 (oneL D.1 id (asD D) D.2.2.2.2 v))), (3, .int (nI v)), (1, .long s0), (0, .ref m)] []
  refine v_aload_n (pc' := 35) F dX7_joinsVersion_34 rfl (j := 4) rfl rfl ?_
  refine v_iload_n (pc' := 36) F dX7_joinsVersion_35 rfl (j := 2) rfl rfl ?_
  refine v_callV (pc' := 39) (rt := (some .int)) (mcc := 0) (msc := 0) (As := [.int (nI v)]) (st := []) F (fun l => s_X7_length G z0 l hM1b hnow w9 hS hv) gX7_joinsVersion_X7_length rfl hv_X7_length (by decide) (by decide) hm4 rfl rfl rfl (Nat.le_of_ble_eq_true rfl) (by omega) (by omega) dX7_joinsVersion_36 rfl (fun v2 h1 hqc => ?_)
  obtain ⟨rfl, hM2, ⟨fT, htT, hfT⟩, fr2⟩ := hqc
  have hM2b := hM2
  obtain ⟨fl5, rl5, kd5, ok5, st5, wm5, hm5, hrows5, ⟨V5, hvals5⟩, ⟨M5, hmany5⟩, ⟨W5, hway5⟩, ⟨f5, htold5⟩, ⟨g5, hoth5⟩, ⟨ll5, hlst5⟩, -, -, -⟩ := hM2
  refine v_istore (pc' := 41) (i := 6) (L' := [(6, .int (nI ((wVals (D.2.2.2.2 v)).length))), (4, .long (mxL s0 (oneL D.1 id (asD D) D.2.2.2.2 v))), (3, .int (nI v)), (1, .long s0), (0, .ref m)]) F dX7_joinsVersion_39  (by decide) rfl rfl ?_
  refine v_iconst (pc' := 42) (v := nI 0) F dX7_joinsVersion_41 (by decide) rfl ?_
  refine v_istore (pc' := 44) (i := 7) (L' := [(7, .int (nI 0)), (6, .int (nI ((wVals (D.2.2.2.2 v)).length))), (4, .long (mxL s0 (oneL D.1 id (asD D) D.2.2.2.2 v))), (3, .int (nI v)), (1, .long s0), (0, .ref m)]) F dX7_joinsVersion_42  (by decide) rfl rfl ?_
  refine v_sub (L' := [(7, .int (nI 0)), (6, .int (nI ((wVals (D.2.2.2.2 v)).length))), (4, .long (mxL s0 (oneL D.1 id (asD D) D.2.2.2.2 v))), (3, .int (nI v)), (1, .long s0), (0, .ref m)]) [0, 1, 2, 3, 4, 5] rfl ?_
  refine lpV_X7_joinsVersion (l := l) (ys := wVals (D.2.2.2.2 v)) F (by omega) (by omega) hm5 htT (by omega) (by omega) (fun i hi => hfT i hi) ?_
  refine v_aload_n (pc' := 73) F dX7_joinsVersion_72 rfl (j := 5) rfl rfl ?_
  refine v_iload_n (pc' := 74) F dX7_joinsVersion_73 rfl (j := 3) rfl rfl ?_
  refine v_callV (pc' := 77) (rt := none) (mcc := 0) (msc := 0) (As := [.int (nI v)]) (st := []) F (fun l => s_X7_lays G z0 l hM2b hnow w9 hS hv) gX7_joinsVersion_X7_lays rfl hv_X7_lays (by decide) (by decide) hm5 rfl rfl rfl (Nat.le_of_ble_eq_true rfl) (by omega) (by omega) dX7_joinsVersion_74 rfl (fun v4 h3 hqc => ?_)
  obtain ⟨rfl, hL3, fr3⟩ := hqc
  have hM3b := hL3.s
  obtain ⟨wm3, hm3, hrows3, hq3, ⟨W3, hway3⟩, ⟨f3, htold3⟩, ⟨g3, hoth3⟩, ⟨ll3, hlst3⟩, -, -, -⟩ := hL3
  have hq3b := hq3
  obtain ⟨V3, M3, ls3, hvals3, hmany3, hls3, hT3⟩ := hq3b
  refine v_iconst (pc' := 78) (v := nI 0) F dX7_joinsVersion_77 (by decide) rfl ?_
  refine v_istore (pc' := 80) (i := 7) (L' := [(7, .int (nI 0)), (6, .int (nI ((wVals (D.2.2.2.2 v)).length))), (4, .long (mxL (mxL s0 (oneL D.1 id (asD D) D.2.2.2.2 v)) (wVals (D.2.2.2.2 v)))), (3, .int (nI v)), (1, .long s0), (0, .ref m)]) F dX7_joinsVersion_78  (by decide) rfl rfl ?_
  refine v_sub (L' := [(7, .int (nI 0)), (6, .int (nI ((wVals (D.2.2.2.2 v)).length))), (4, .long (mxL (mxL s0 (oneL D.1 id (asD D) D.2.2.2.2 v)) (wVals (D.2.2.2.2 v)))), (3, .int (nI v)), (1, .long s0), (0, .ref m)]) [0, 1, 2, 3, 4, 5] rfl ?_
  have fr5 : gfr [m, vals, many, way, told, oth, lst] h h3 := (gfr.t fr1 (gfr.t fr2 fr3))
  have hLs : ∀ L, L < 6 → ls3 L = qList (qOf (D.2.2.2.2 v)).1 (L + 1) := fun L hL => qL_ls (k := L + 1) hJ.2.1 hT3 (by omega) (by omega)
  refine lpL_X7_joinsVersion (l := l) (L := 0) (j := 6) (q := (qOf (D.2.2.2.2 v)).1) F E (by omega) (by omega) hm3 hvals3 hmany3 hls3 hLs hkd9.1 (fun z1 => ⟨by rw [hLs 2 (by omega)]; exact (hJ.old z1).1, by rw [hLs 4 (by omega)]; exact (hJ.old z1).2⟩) (by omega) ⟨?_, hM3b, fr5⟩
  rw [mxL_app, show lsV (D.2.2.2.2 v) = wVals (D.2.2.2.2 v) ++ lsQ (qOf (D.2.2.2.2 v)).1 6 1 from rfl, mxL_app]
set_option maxHeartbeats 4000000 in
set_option maxRecDepth 100000 in
theorem lpA_X7_checksum {G : gG} {z0 : Nat} {X : gX} {l : Launch} {mc ms cells slots j k : Nat} {h : gH} {m rows asd vals many way told oth lst text now : Nat} {th und fed len spot fa fat num frm may : Int32} {sm : Int64} {R : Nat → Int32} {D : Dt} (F : gF G z0 X cX7_checksum 4 RX7 wsX7_checksum (some .long) "checksum" 7 158 mc ms) (hcc : cells ≤ mc) (hss : slots ≤ ms) (hMS : mS G h m rows asd vals many way told oth lst text th now und fed len spot fa fat num frm may R) (hnow : now < 9) (w9 : wfD D) (hS : slD R (330 * now) D) (hkj : k + j = 10) (K : ∀ h' : gH, mS G h' m rows asd vals many way told oth lst text th now und fed len spot fa fat num frm may R → gfr [m, vals, many, way, told, oth, lst] h h' → gV G z0 X cells slots h' 42 [(3, .int (nI 10)), (1, .long (mxL sm (taD D j k))), (0, .ref m)] []) : gV G z0 X cells slots h 9 [(3, .int (nI k)), (1, .long sm), (0, .ref m)] [] := by
  induction j generalizing k sm h with
  | zero =>
    obtain rfl : k = 10 := by omega
    refine v_iload_n (pc' := 10) F dX7_checksum_9 rfl (j := 0) rfl rfl ?_
    refine v_bipush (pc' := 12) (v := nI 10) F dX7_checksum_10 (by decide) rfl ?_
    refine w_icmp_ge (tgt := 42) (pc' := 15) F (by omega) (by omega) dX7_checksum_12 (by decide) rfl (fun _ => ?_) (fun c0 => absurd c0 (by omega))
    exact K h hMS gfr.rf
  | succ j ih =>
    have hMS0 := hMS
    obtain ⟨fl, rl, kd, ok, st, wm, hm, hrows, ⟨V, hvals⟩, ⟨M, hmany⟩, ⟨W, hway⟩, ⟨f, htold⟩, ⟨g, hoth⟩, ⟨ll, hlst⟩, htw, how, hto⟩ := hMS
    refine v_iload_n (pc' := 10) F dX7_checksum_9 rfl (j := 0) rfl rfl ?_
    refine v_bipush (pc' := 12) (v := nI 10) F dX7_checksum_10 (by decide) rfl ?_
    refine w_icmp_ge (tgt := 42) (pc' := 15) F (by omega) (by omega) dX7_checksum_12 (by decide) rfl (fun c0 => absurd c0 (by omega)) (fun _ => ?_)
    refine v_iload_n (pc' := 16) F dX7_checksum_15 rfl (j := 0) rfl rfl ?_
    refine v_bipush (pc' := 18) (v := nI 8) F dX7_checksum_16 (by decide) rfl ?_
    refine w_icmp_ne (tgt := 25) (pc' := 21) F (by omega) (by omega) dX7_checksum_18 (by decide) rfl (fun c0 => ?_) (fun c0 => ?_)
    · have e1 : taD D (j + 1) k = nI (nAll D.1 D.2.1 D.2.2.1 id (fun i => (asD D i).head?) D.2.2.2.2 k) :: taD D j (k + 1) := if_neg c0
      rw [e1, mxL_cons] at K
      refine v_lload_n (pc' := 26) F dX7_checksum_25 rfl (j := 1) rfl rfl ?_
      refine v_aload_n (pc' := 27) F dX7_checksum_26 rfl (j := 2) rfl rfl ?_
      refine v_iload_n (pc' := 28) F dX7_checksum_27 rfl (j := 0) rfl rfl ?_
      refine v_callV (pc' := 31) (rt := (some .int)) (mcc := 0) (msc := 0) (As := [.int (nI k)]) (st := [.long sm]) F (fun l => c_X7_toldOf G z0 l (k := k) hMS0 hnow w9 hS ⟨by omega, c0⟩) gX7_checksum_X7_toldOf rfl hv_X7_toldOf (by decide) (by decide) hm rfl rfl rfl (Nat.le_of_ble_eq_true rfl) (by omega) (by omega) dX7_checksum_28 rfl (fun v2 h1 hqc => ?_)
      obtain ⟨rfl, hMA, frA⟩ := hqc
      refine v_i2l (pc' := 32) (v := (nI (nAll D.1 D.2.1 D.2.2.1 id (fun i => (asD D i).head?) D.2.2.2.2 k)).toInt64) F dX7_checksum_31 rfl rfl ?_
      refine v_callS (pc' := 35) (rt := (some .long)) (mcc := 0) (msc := 0) (As := [.long sm, .long ((nI (nAll D.1 D.2.1 D.2.2.1 id (fun i => (asD D i).head?) D.2.2.2.2 k)).toInt64)]) (st := []) F (fun l => c_X7_joins G z0 l sm (nI (nAll D.1 D.2.1 D.2.2.1 id (fun i => (asD D i).head?) D.2.2.2.2 k)).toInt64) gX7_checksum_X7_joins rfl hd_X7_joins (by decide) (by decide) rfl rfl (Nat.le_of_ble_eq_true rfl) (by omega) (by omega) dX7_checksum_32 rfl (fun v3 h1 hqj => ?_)
      obtain ⟨rfl, rfl⟩ := hqj
      refine v_lstore_n (pc' := 36) (i := 1) (L' := [(1, .long (mx sm (nI (nAll D.1 D.2.1 D.2.2.1 id (fun i => (asD D i).head?) D.2.2.2.2 k)))), (3, .int (nI k)), (0, .ref m)]) F dX7_checksum_35 rfl (by decide) rfl rfl ?_
      refine v_iinc (pc' := 39) (j := 1) (x := nI k) (v := nI (k + 1)) (L' := [(3, .int (nI (k + 1))), (1, .long (mx sm (nI (nAll D.1 D.2.1 D.2.2.1 id (fun i => (asD D i).head?) D.2.2.2.2 k)))), (0, .ref m)]) F dX7_checksum_36 rfl (nI_add k 1) (by decide) rfl rfl ?_
      refine v_goto (tgt := 9) F dX7_checksum_39 (by decide) ?_
      have fr4 : gfr [m, vals, many, way, told, oth, lst] h h1 := frA
      refine v_sub (L' := [(3, .int (nI (k + 1))), (1, .long (mx sm (nI (nAll D.1 D.2.1 D.2.2.1 id (fun i => (asD D i).head?) D.2.2.2.2 k)))), (0, .ref m)]) [0, 1, 2] rfl ?_
      exact ih (k := k + 1) hMA (by omega) (fun hA a1 a2 => K hA a1 (gfr.t fr4 a2))
    · have e1 : taD D (j + 1) k = taD D j (k + 1) := if_pos c0
      rw [e1] at K
      refine v_lload_n (pc' := 22) F dX7_checksum_21 rfl (j := 1) rfl rfl ?_
      refine v_goto (tgt := 35) F dX7_checksum_22 (by decide) ?_
      refine v_lstore_n (pc' := 36) (i := 1) (L' := [(1, .long sm), (3, .int (nI k)), (0, .ref m)]) F dX7_checksum_35 rfl (by decide) rfl rfl ?_
      refine v_iinc (pc' := 39) (j := 1) (x := nI k) (v := nI (k + 1)) (L' := [(3, .int (nI (k + 1))), (1, .long sm), (0, .ref m)]) F dX7_checksum_36 rfl (nI_add k 1) (by decide) rfl rfl ?_
      refine v_goto (tgt := 9) F dX7_checksum_39 (by decide) ?_
      refine v_sub (L' := [(3, .int (nI (k + 1))), (1, .long sm), (0, .ref m)]) [0, 1, 2] rfl ?_
      exact ih (k := k + 1) hMS0 (by omega) K
theorem hv_X7_joinsVersion : yX7_joinsVersion.cls = RX7 ∧ yX7_joinsVersion.cls ≠ "java/lang/invoke/MethodHandle" ∧ yX7_joinsVersion.cls ≠ "java/lang/invoke/VarHandle" ∧ (parseMethodDescriptor yX7_joinsVersion.desc).map (fun d => d.parameters.length) = some 2 := by decide +kernel
set_option maxHeartbeats 4000000 in
set_option maxRecDepth 100000 in
theorem lpB_X7_checksum {G : gG} {z0 : Nat} {X : gX} {l : Launch} {post : Option Value → gH → Prop} {mc ms cells slots j k : Nat} {h : gH} {m rows asd vals many way told oth lst text now : Nat} {th und fed len spot fa fat num frm may : Int32} {sm : Int64} {R : Nat → Int32} {D : Dt} (F : gF G z0 X cX7_checksum 4 RX7 wsX7_checksum (some .long) "checksum" 7 158 mc ms) (E : gE G z0 X post mc ms) (hcc : cells ≤ mc) (hss : slots ≤ ms) (hMS : mS G h m rows asd vals many way told oth lst text th now und fed len spot fa fat num frm may R) (hnow : now < 9) (w9 : wfD D) (hS : slD R (330 * now) D) (hkj : k + j = D.1) (hp : ∀ h' : gH, mS G h' m rows asd vals many way told oth lst text th now und fed len spot fa fat num frm may R → gfr [m, vals, many, way, told, oth, lst] h h' → post (some (.long (mxL sm (ckR D.1 id (asD D) D.2.2.2.2 j k)))) h') : gV G z0 X cells slots h 44 [(3, .int (nI k)), (1, .long sm), (0, .ref m)] [] := by
  induction j generalizing k sm h with
  | zero =>
    have hMS0 := hMS
    obtain ⟨fl, rl, kd, ok, st, wm, hm, hrows, ⟨V, hvals⟩, ⟨M, hmany⟩, ⟨W, hway⟩, ⟨f, htold⟩, ⟨g, hoth⟩, ⟨ll, hlst⟩, htw, how, hto⟩ := hMS
    have hn64 := w9.2.1
    obtain rfl : k = D.1 := by omega
    refine v_iload_n (pc' := 45) F dX7_checksum_44 rfl (j := 0) rfl rfl ?_
    refine v_aload_n (pc' := 46) F dX7_checksum_45 rfl (j := 2) rfl rfl ?_
    refine v_callV (pc' := 49) (rt := (some .int)) (mcc := 0) (msc := 0) (As := []) (st := [.int (nI D.1)]) F (fun l => c_X7_versions G z0 l hm hrows hnow hS.1) gX7_checksum_X7_versions rfl hv_X7_versions (by decide) (by decide) hm rfl rfl rfl (Nat.le_of_ble_eq_true rfl) (by omega) (by omega) dX7_checksum_46 rfl (fun v1 h hqv => ?_)
    obtain ⟨rfl, rfl⟩ := hqv
    refine w_icmp_ge (tgt := 65) (pc' := 52) F (by omega) (by omega) dX7_checksum_49 (by decide) rfl (fun _ => ?_) (fun c0 => absurd c0 (by omega))
    refine v_lload_n (pc' := 66) F dX7_checksum_65 rfl (j := 1) rfl rfl ?_
    exact v_lret F E (by omega) (by omega)  dX7_checksum_66 (hp h hMS0 gfr.rf)
  | succ j ih =>
    have hMS0 := hMS
    obtain ⟨fl, rl, kd, ok, st, wm, hm, hrows, ⟨V, hvals⟩, ⟨M, hmany⟩, ⟨W, hway⟩, ⟨f, htold⟩, ⟨g, hoth⟩, ⟨ll, hlst⟩, htw, how, hto⟩ := hMS
    have hn64 := w9.2.1
    have hkD : k < D.1 := by omega
    refine v_iload_n (pc' := 45) F dX7_checksum_44 rfl (j := 0) rfl rfl ?_
    refine v_aload_n (pc' := 46) F dX7_checksum_45 rfl (j := 2) rfl rfl ?_
    refine v_callV (pc' := 49) (rt := (some .int)) (mcc := 0) (msc := 0) (As := []) (st := [.int (nI k)]) F (fun l => c_X7_versions G z0 l hm hrows hnow hS.1) gX7_checksum_X7_versions rfl hv_X7_versions (by decide) (by decide) hm rfl rfl rfl (Nat.le_of_ble_eq_true rfl) (by omega) (by omega) dX7_checksum_46 rfl (fun v1 h hqv => ?_)
    obtain ⟨rfl, rfl⟩ := hqv
    refine w_icmp_ge (tgt := 65) (pc' := 52) F (by omega) (by omega) dX7_checksum_49 (by decide) rfl (fun c0 => absurd c0 (by omega)) (fun _ => ?_)
    refine v_aload_n (pc' := 53) F dX7_checksum_52 rfl (j := 2) rfl rfl ?_
    refine v_lload_n (pc' := 54) F dX7_checksum_53 rfl (j := 1) rfl rfl ?_
    refine v_iload_n (pc' := 55) F dX7_checksum_54 rfl (j := 0) rfl rfl ?_
    refine v_callV (pc' := 58) (rt := (some .long)) (mcc := 0) (msc := 0) (As := [.long sm, .int (nI k)]) (st := []) F (fun l => c_X7_joinsVersion G z0 l sm hMS0 hnow w9 hS hkD) gX7_checksum_X7_joinsVersion rfl hv_X7_joinsVersion (by decide) (by decide) hm rfl rfl rfl (Nat.le_of_ble_eq_true rfl) (by omega) (by omega) dX7_checksum_55 rfl (fun v3 h2 hqc => ?_)
    obtain ⟨rfl, hMA, frA⟩ := hqc
    refine v_lstore_n (pc' := 59) (i := 1) (L' := [(1, .long (mxL sm (oneL D.1 id (asD D) D.2.2.2.2 k ++ lsV (D.2.2.2.2 k)))), (3, .int (nI k)), (0, .ref m)]) F dX7_checksum_58 rfl (by decide) rfl rfl ?_
    refine v_iinc (pc' := 62) (j := 1) (x := nI k) (v := nI (k + 1)) (L' := [(3, .int (nI (k + 1))), (1, .long (mxL sm (oneL D.1 id (asD D) D.2.2.2.2 k ++ lsV (D.2.2.2.2 k)))), (0, .ref m)]) F dX7_checksum_59 rfl (nI_add k 1) (by decide) rfl rfl ?_
    refine v_goto (tgt := 44) F dX7_checksum_62 (by decide) ?_
    have fr4 : gfr [m, vals, many, way, told, oth, lst] h h2 := frA
    refine v_sub (L' := [(3, .int (nI (k + 1))), (1, .long (mxL sm (oneL D.1 id (asD D) D.2.2.2.2 k ++ lsV (D.2.2.2.2 k)))), (0, .ref m)]) [0, 1, 2] rfl ?_
    rw [ckR_s] at hp
    rw [← List.append_assoc, mxL_app] at hp
    exact ih (k := k + 1) hMA (by omega) (fun hA a1 a2 => hp hA a1 (gfr.t fr4 a2))
theorem k_X7_checksum_7 : gCl wsX7_checksum 7 RX7 TX7 26 := ⟨by decide +kernel, rfl⟩
theorem m_X7_checksum_f44 : Cond.fieldLink RX7 44 "SteadyQueuesModel" "thrown" "I" ∈ wsX7_checksum := by decide +kernel
set_option maxHeartbeats 4000000 in
set_option maxRecDepth 100000 in
theorem c_X7_checksum (G : gG) (z0 : Nat) (l : Launch) {h : gH} {m rows asd vals many way told oth lst text now : Nat} {th und fed len spot fa fat num frm may : Int32} {R : Nat → Int32} {D : Dt} (hMS : mS G h m rows asd vals many way told oth lst text th now und fed len spot fa fat num frm may R) (hnow : now < 9) (w9 : wfD D) (hS : slD R (330 * now) D) : gC G z0 l yX7_checksum wsX7_checksum 7 158 [.ref m] h (fun o h' => o = some (.long (mxL 0 (ckL D.1 D.2.1 D.2.2.1 id (asD D) D.2.2.2.2))) ∧ mS G h' m rows asd vals many way told oth lst text (nI 0) now und fed len spot fa fat num frm may R ∧ gfr [m, vals, many, way, told, oth, lst] h h') 0 0 := by
  have h1n := w9.1
  have hn64 := w9.2.1
  have hMS0 := hMS
  obtain ⟨fl, rl, kd, ok, st, wm, hm, hrows, ⟨V, hvals⟩, ⟨M, hmany⟩, ⟨W, hway⟩, ⟨f, htold⟩, ⟨g, hoth⟩, ⟨ll, hlst⟩, htw, how, hto⟩ := hMS
  refine gC_of (cc := cX7_checksum) (nL := 4) (ret := (some .long)) (by decide) rfl (Nat.le_of_ble_eq_true rfl) ?_
  intro X F E _
  change gF G z0 X cX7_checksum 4 RX7 wsX7_checksum (some .long) "checksum" 7 158 _ _ at F
  show gV G z0 X 0 0 h 0 [(0, .ref m)] []
  refine v_aload_n (pc' := 1) F dX7_checksum_0 rfl (j := 0) rfl rfl ?_
  refine v_iconst (pc' := 2) (v := nI 0) F dX7_checksum_1 (by decide) rfl ?_
  refine w_putf (pc' := 5) F k_X7_checksum_7 tyX7_ok nmX7 hm 0 (by decide) m_X7_checksum_f44 rfl  rfl rfl (show 0 < 26 by decide) [.int (nI 0), .ref rows, .ref asd, .int (nI now), .int und, .ref vals, .ref many, .int fl, .int rl, .int kd, .int ok, .int st, .ref way, .int wm, .ref told, .ref oth, .ref lst, .ref text, .int fed, .int len, .int spot, .int fa, .int fat, .int num, .int frm, .int may] rfl dX7_checksum_2 rfl (fun h1 a2 f3 => ?_)
  refine v_lconst (pc' := 6) (v := 0) F dX7_checksum_5 (by decide) rfl ?_
  refine v_lstore_n (pc' := 7) (i := 1) (L' := [(1, .long 0), (0, .ref m)]) F dX7_checksum_6 rfl (by decide) rfl rfl ?_
  refine v_iconst (pc' := 8) (v := nI 0) F dX7_checksum_7 (by decide) rfl ?_
  refine v_istore_n (pc' := 9) (i := 3) (L' := [(3, .int (nI 0)), (1, .long 0), (0, .ref m)]) F dX7_checksum_8 rfl (by decide) rfl rfl ?_
  refine v_sub (L' := [(3, .int (nI 0)), (1, .long 0), (0, .ref m)]) [0, 1, 2] rfl ?_
  have fr4 : gfr [m, vals, many, way, told, oth, lst] h h1 := (gfr.mono f3 (by intro q9 z9 m9; apply z9; simp only [List.mem_cons, List.not_mem_nil, or_false] at m9 ⊢; omega))
  have g5 := f3 _ _ (gnc (Ne.symm (g_neA hm hrows)) gn0) hrows
  have g6 := f3 _ _ (gnc (Ne.symm (g_neA hm hvals)) gn0) hvals
  have g7 := f3 _ _ (gnc (Ne.symm (g_neA hm hmany)) gn0) hmany
  have g8 := f3 _ _ (gnc (Ne.symm (g_neA hm hway)) gn0) hway
  have g9 := f3 _ _ (gnc (Ne.symm (g_neA hm htold)) gn0) htold
  have g10 := f3 _ _ (gnc (Ne.symm (g_neA hm hoth)) gn0) hoth
  have g11 := f3 _ _ (gnc (Ne.symm (g_neA hm hlst)) gn0) hlst
  refine lpA_X7_checksum (l := l) (k := 0) (j := 10) F (by omega) (by omega) ⟨_, _, _, _, _, _, a2, g5, ⟨_, g6⟩, ⟨_, g7⟩, ⟨_, g8⟩, ⟨_, g9⟩, ⟨_, g10⟩, ⟨_, g11⟩, htw, how, hto⟩ hnow w9 hS (by omega) (fun hA a1 a2 => ?_)
  rw [taD_all]
  show gV G z0 X 0 0 hA 42 [(3, .int (nI 10)), (1, .long (mxL 0 (allL D.1 D.2.1 D.2.2.1 id (asD D) D.2.2.2.2))), (0, .ref m)] []
  refine v_iconst (pc' := 43) (v := nI 0) F dX7_checksum_42 (by decide) rfl ?_
  refine v_istore_n (pc' := 44) (i := 3) (L' := [(3, .int (nI 0)), (1, .long (mxL 0 (allL D.1 D.2.1 D.2.2.1 id (asD D) D.2.2.2.2))), (0, .ref m)]) F dX7_checksum_43 rfl (by decide) rfl rfl ?_
  refine v_sub (L' := [(3, .int (nI 0)), (1, .long (mxL 0 (allL D.1 D.2.1 D.2.2.1 id (asD D) D.2.2.2.2))), (0, .ref m)]) [0, 1, 2] rfl ?_
  refine lpB_X7_checksum (l := l) (k := 0) (j := D.1) F E (by omega) (by omega) a1 hnow w9 hS (by omega) (fun hB b1 b2 => ⟨?_, b1, gfr.t fr4 (gfr.t a2 b2)⟩)
  rw [← mxL_app]; rfl

/-! THE QUEUE, PURE: a turn is (kind, ok, old front, new front, old rear, new rear); a queue is (front, rear, front length, rear length, turn); no word of the machine here -/
abbrev mT : Type := Nat × Nat × List Int32 × List Int32 × List Int32 × List Int32
abbrev mQ : Type := List Int32 × List Int32 × Nat × Nat × mT
def t0 : mT := (0, 0, [], [], [], [])
def q0 : mQ := ([], [], 0, 0, t0)
def tStep (T : mT) : Option mT :=
  match T with
  | (1, ok, a :: oF, nF, b :: oR, nR) => some (1, ok + 1, oF, a :: nF, oR, b :: nR)
  | (1, ok, [], nF, [b], nR) => some (2, ok, [], nF, [], b :: nR)
  | (2, 0, oF, _, oR, nR) => some (3, 0, oF, [], oR, nR)
  | (2, ok + 1, oF, a :: nF, oR, nR) => some (2, ok, oF, nF, oR, a :: nR)
  | _ => none
def tRun : Nat → mT → mT × Nat
  | 0, T => (T, 0)
  | p + 1, T => match tStep T with
    | none => (T, 0)
    | some T' => ((tRun p T').1, (tRun p T').2 + 1)
def qBegin (q : mQ) : mQ :=
  match q with
  | (f, r, fl, rl, T) => if fl < rl then (f, [], fl + rl, 0, (1, 0, f, [], r, [])) else (f, r, fl, rl, T)
def qEnd (q : mQ) : mQ :=
  match q with
  | (f, r, fl, rl, (k, ok, oF, nF, oR, nR)) => if k = 3 then (nR, r, fl, rl, t0) else (f, r, fl, rl, (k, ok, oF, nF, oR, nR))
/-- settled, and the steps that were done -/
def qSettle (p : Nat) (q : mQ) : mQ × Nat :=
  match qBegin q with
  | (f, r, fl, rl, T) => (qEnd (f, r, fl, rl, (tRun p T).1), (tRun p T).2)
def qPut (v : Int32) (q : mQ) : mQ :=
  match q with
  | (f, r, fl, rl, T) => (f, v :: r, fl, rl + 1, T)
def tLose (T : mT) : mT :=
  match T with
  | (1, ok, oF, nF, oR, nR) => (1, ok - 1, oF, nF, oR, nR)
  | (2, 0, oF, _, oR, nR) => (3, 0, oF, [], oR, nR.tail)
  | (2, ok + 1, oF, nF, oR, nR) => (2, ok, oF, nF, oR, nR)
  | T => T
def qTake (q : mQ) : mQ :=
  match q with
  | (f, r, fl, rl, T) => (f.tail, r, fl - 1, rl, tLose T)
/-- a push or a pop (-1), with the pace of then -/
abbrev mO : Type := Int32 × Nat
def qOp (q : mQ) (o : mO) : mQ × Nat := qSettle o.2 (if o.1 = -1 then qTake q else qPut o.1 q)
def qOf : List mO → mQ × Nat
  | [] => (q0, 0)
  | o :: os => qOp (qOf os).1 o
/-- the values by the lists -/
def qVals (q : mQ) : List Int32 :=
  match q with
  | (f, r, _, _, (k, ok, _, _, oR, nR)) => (if k = 2 then f.take ok else f) ++ (oR.reverse ++ (nR ++ r.reverse))
def tRem (T : mT) : Nat :=
  match T with
  | (1, ok, oF, _, _, _) => 2 * oF.length + ok + 2
  | (2, ok, _, _, _, _) => ok + 1
  | _ => 0
/-- what holds at every step: xs are the values, b bounds all lengths -/
def qM (b : Nat) (xs : List Int32) (q : mQ) : Prop :=
  match q with
  | (f, r, fl, rl, (k, ok, oF, nF, oR, nR)) => rl = r.length ∧ fl + rl = xs.length ∧ f.length ≤ b ∧ fl + rl ≤ b ∧
    ((k = 0 ∧ ok = 0 ∧ oF = [] ∧ nF = [] ∧ oR = [] ∧ nR = [] ∧ fl = f.length ∧ xs = f ++ r.reverse)
    ∨ (k = 1 ∧ ok ≤ nF.length ∧ f = (nF.take ok).reverse ++ oF ∧ oR.length = oF.length + 1 ∧ nR.length = nF.length ∧ nF.length + oF.length ≤ b ∧ fl = f.length + oR.length + nR.length ∧ xs = f ++ (oR.reverse ++ (nR ++ r.reverse)))
    ∨ (k = 2 ∧ ok ≤ nF.length ∧ ok ≤ f.length ∧ f.take ok = (nF.take ok).reverse ∧ oF = [] ∧ oR = [] ∧ nF.length ≤ b ∧ fl = ok + nR.length ∧ xs = f.take ok ++ (nR ++ r.reverse))
    ∨ (k = 3 ∧ fl = nR.length ∧ xs = nR ++ r.reverse ∧ ok = 0 ∧ oF = [] ∧ nF = [] ∧ oR = []))
theorem tStep_M {b : Nat} {xs f r : List Int32} {fl rl : Nat} {T T' : mT} (h : qM b xs (f, r, fl, rl, T)) (ht : tStep T = some T') : qM b xs (f, r, fl, rl, T') ∧ tRem T' + 1 = tRem T := by
  obtain ⟨k, ok, oF, nF, oR, nR⟩ := T
  obtain ⟨h1, h2, h3, h4, h5⟩ := h
  rcases h5 with ⟨rfl, rfl, rfl, rfl, rfl, rfl, h6, h7⟩ | ⟨rfl, h6, h7, h8, h9, h10, h11, h12⟩ | ⟨rfl, h6, h7, h8, rfl, rfl, h11, h12, h13⟩ | ⟨rfl, h6, h7, -⟩
  · simp [tStep] at ht
  · cases oF with
    | nil =>
      cases oR with
      | nil => simp at h8
      | cons b1 oR =>
        have : oR = [] := List.length_eq_zero_iff.mp (by simpa using h8)
        subst this
        simp [tStep] at ht
        subst ht
        have e0 : ((nF.take ok).reverse).take ok = (nF.take ok).reverse := List.take_of_length_le (by rw [List.length_reverse, List.length_take]; exact Nat.min_le_left _ _)
        refine ⟨⟨h1, h2, h3, h4, Or.inr (Or.inr (Or.inl ⟨rfl, h6, ?_, ?_, rfl, rfl, by simpa using h10, ?_, ?_⟩))⟩, by simp [tRem]⟩
        · rw [h7]; simp; omega
        · rw [h7, List.append_nil, e0]
        · rw [h11, h7]; simp [Nat.min_eq_left h6]; omega
        · rw [h12, h7, List.append_nil, e0]; simp
    | cons a oF =>
      cases oR with
      | nil => simp at h8
      | cons b1 oR =>
        simp [tStep] at ht
        subst ht
        refine ⟨⟨h1, h2, h3, h4, Or.inr (Or.inl ⟨rfl, ?_, ?_, by simpa using h8, by simpa using h9, ?_, ?_, ?_⟩)⟩, ?_⟩
        · simp; omega
        · rw [h7]; simp
        · simp at h10 ⊢; omega
        · rw [h11]; simp; omega
        · rw [h12]; simp
        · simp [tRem]; omega
  · cases ok with
    | zero =>
      simp [tStep] at ht
      subst ht
      refine ⟨⟨h1, h2, h3, h4, Or.inr (Or.inr (Or.inr ⟨rfl, by simpa using h12, by simpa using h13, rfl, rfl, rfl, rfl⟩))⟩, by simp [tRem]⟩
    | succ ok =>
      cases nF with
      | nil => simp at h6
      | cons a nF =>
        simp [tStep] at ht
        subst ht
        have e1 : f.take ok = (nF.take ok).reverse := by
          have h := congrArg (List.take ok) h8
          rw [List.take_take, Nat.min_eq_left (Nat.le_succ ok)] at h
          rw [h]
          simp only [List.take_succ_cons, List.reverse_cons]
          rw [List.take_append_of_le_length (by simp at h6 ⊢; omega), List.take_of_length_le (by simp; omega)]
        refine ⟨⟨h1, h2, h3, h4, Or.inr (Or.inr (Or.inl ⟨rfl, by simp at h6; omega, by omega, e1, rfl, rfl, by simp at h11; omega, ?_, ?_⟩))⟩, by simp [tRem]⟩
        · rw [h12]; simp; omega
        · rw [h13, h8, e1]; simp
  · simp [tStep] at ht
theorem tStep_none {b : Nat} {xs f r : List Int32} {fl rl : Nat} {T : mT} (h : qM b xs (f, r, fl, rl, T)) (ht : tStep T = none) : tRem T = 0 := by
  obtain ⟨k, ok, oF, nF, oR, nR⟩ := T
  obtain ⟨h1, h2, h3, h4, h5⟩ := h
  rcases h5 with ⟨rfl, rfl, rfl, rfl, rfl, rfl, h6, h7⟩ | ⟨rfl, h6, h7, h8, h9, h10, h11, h12⟩ | ⟨rfl, h6, h7, h8, rfl, rfl, h11, h12, h13⟩ | ⟨rfl, h6, h7, -⟩
  · rfl
  · cases oF with
    | nil =>
      cases oR with
      | nil => simp at h8
      | cons b1 oR =>
        have : oR = [] := List.length_eq_zero_iff.mp (by simpa using h8)
        subst this
        simp [tStep] at ht
    | cons a oF =>
      cases oR with
      | nil => simp at h8
      | cons b1 oR => simp [tStep] at ht
  · cases ok with
    | zero => simp [tStep] at ht
    | succ ok =>
      cases nF with
      | nil => simp at h6
      | cons a nF => simp [tStep] at ht
  · rfl
theorem tRun_M {b : Nat} {xs f r : List Int32} {fl rl : Nat} : ∀ (p : Nat) {T : mT}, qM b xs (f, r, fl, rl, T) → qM b xs (f, r, fl, rl, (tRun p T).1) ∧ tRem (tRun p T).1 = tRem T - p
  | 0, T, h => ⟨h, rfl⟩
  | p + 1, T, h => by
    unfold tRun
    cases ht : tStep T with
    | none => exact ⟨h, by have := tStep_none h ht; simp only; omega⟩
    | some T' =>
      obtain ⟨h1, h2⟩ := tStep_M h ht
      obtain ⟨h3, h4⟩ := tRun_M p h1
      exact ⟨h3, by simp only; omega⟩
/-- what holds of a settled queue -/
def qJ (b : Nat) (xs : List Int32) (q : mQ) : Prop := qM b xs q ∧ q.2.2.2.2.1 ≠ 3 ∧ (q.2.2.2.2.1 = 0 → q.2.2.2.1 ≤ q.2.2.1) ∧ tRem q.2.2.2.2 ≤ 2 * q.1.length ∧ tRem q.2.2.2.2 + 2 * q.2.2.2.1 ≤ 2 * q.2.2.1
theorem qJ_0 : qJ 0 [] q0 := ⟨⟨rfl, rfl, Nat.le_refl _, Nat.le_refl _, Or.inl ⟨rfl, rfl, rfl, rfl, rfl, rfl, rfl, rfl⟩⟩, by decide, fun _ => Nat.le_refl _, by decide, by decide⟩
/-- what holds of a queue that is about to be settled -/
def qPre (b : Nat) (xs : List Int32) (p : Nat) (q : mQ) : Prop :=
  match qBegin q with
  | (f, r, fl, rl, T) => qM b xs (f, r, fl, rl, T) ∧ rl ≤ fl ∧ tRem T ≤ 2 * f.length + p ∧ tRem T + 2 * rl ≤ 2 * fl + p
theorem qPre_A {b p : Nat} {xs f r : List Int32} {fl rl : Nat} {T : mT} (h : qM b xs (f, r, fl, rl, T)) (hl : rl ≤ fl) (h1 : tRem T ≤ 2 * f.length + p) (h2 : tRem T + 2 * rl ≤ 2 * fl + p) : qPre b xs p (f, r, fl, rl, T) := by
  have e : qBegin (f, r, fl, rl, T) = (f, r, fl, rl, T) := if_neg (by omega)
  unfold qPre
  rw [e]
  exact ⟨h, hl, h1, h2⟩
theorem qSettle_J {b p : Nat} {xs : List Int32} {q : mQ} (hq : qPre b xs p q) : qJ b xs (qSettle p q).1 := by
  unfold qPre at hq
  unfold qSettle
  generalize qBegin q = q' at hq ⊢
  obtain ⟨f, r, fl, rl, T⟩ := q'
  obtain ⟨h, hl, h1, h2⟩ := hq
  obtain ⟨m1, m2⟩ := tRun_M p h
  show qJ b xs (qEnd (f, r, fl, rl, (tRun p T).1))
  generalize (tRun p T).1 = T' at m1 m2 ⊢
  obtain ⟨k, ok, oF, nF, oR, nR⟩ := T'
  by_cases hk : k = 3
  · subst hk
    obtain ⟨g1, g2, g3, g4, g5⟩ := m1
    rcases g5 with ⟨z, -⟩ | ⟨z, -⟩ | ⟨z, -⟩ | ⟨-, g6, g7, -⟩
    · exact absurd z (by decide)
    · exact absurd z (by decide)
    · exact absurd z (by decide)
    · rw [show qEnd (f, r, fl, rl, (3, ok, oF, nF, oR, nR)) = (nR, r, fl, rl, t0) from rfl]
      exact ⟨⟨g1, g2, by omega, g4, Or.inl ⟨rfl, rfl, rfl, rfl, rfl, rfl, g6, g7⟩⟩, (show (0 : Nat) ≠ 3 by decide), fun _ => hl, Nat.zero_le _, by show 0 + 2 * rl ≤ 2 * fl; omega⟩
  · rw [show qEnd (f, r, fl, rl, (k, ok, oF, nF, oR, nR)) = (f, r, fl, rl, (k, ok, oF, nF, oR, nR)) from if_neg hk]
    refine ⟨m1, hk, fun _ => hl, ?_, ?_⟩
    · show tRem (k, ok, oF, nF, oR, nR) ≤ 2 * f.length
      omega
    · show tRem (k, ok, oF, nF, oR, nR) + 2 * rl ≤ 2 * fl
      omega
theorem qPre_B {b p : Nat} {f r : List Int32} {fl rl : Nat} (hp : 2 ≤ p) (hf : fl = f.length) (hr : rl = r.length) (hl : rl = fl + 1) (hb : fl + rl ≤ b) : qPre b (f ++ r.reverse) p (f, r, fl, rl, t0) := by
  have e : qBegin (f, r, fl, rl, t0) = (f, [], fl + rl, 0, (1, 0, f, [], r, [])) := if_pos (by omega)
  unfold qPre
  rw [e]
  refine ⟨⟨rfl, by simp; omega, by omega, by omega, Or.inr (Or.inl ⟨rfl, Nat.zero_le _, rfl, by omega, rfl, by simp; omega, by simp; omega, by simp⟩)⟩, Nat.zero_le _, ?_, ?_⟩
  · show 2 * f.length + 0 + 2 ≤ _
    omega
  · show 2 * f.length + 0 + 2 + _ ≤ _
    omega
theorem qPut_pre {b p : Nat} {xs : List Int32} {q : mQ} (hp : 2 ≤ p) (v : Int32) (h : qJ b xs q) : qPre (b + 1) (xs ++ [v]) p (qPut v q) := by
  obtain ⟨f, r, fl, rl, k, ok, oF, nF, oR, nR⟩ := q
  obtain ⟨⟨h1, h2, h3, h4, h5⟩, j1, j2, j3, j4⟩ := h
  simp only at j1 j2 j3 j4
  have hxl : (xs ++ [v]).length = xs.length + 1 := by simp
  rcases h5 with ⟨rfl, rfl, rfl, rfl, rfl, rfl, h6, h7⟩ | ⟨rfl, h6, h7, h8, h9, h10, h11, h12⟩ | ⟨rfl, h6, h7, h8, rfl, rfl, h11, h12, h13⟩ | ⟨rfl, h6, h7, -⟩
  · have hx : xs ++ [v] = f ++ (v :: r).reverse := by rw [h7]; simp
    by_cases hl : rl + 1 ≤ fl
    · exact qPre_A ⟨by simp [h1], by omega, by omega, by omega, Or.inl ⟨rfl, rfl, rfl, rfl, rfl, rfl, h6, hx⟩⟩ hl (Nat.zero_le _) (by show 0 + 2 * (rl + 1) ≤ _; omega)
    · have := j2 rfl
      rw [hx]
      exact qPre_B hp h6 (by simp [h1]) (by omega) (by omega)
  · have e3 : tRem (1, ok, oF, nF, oR, nR) = 2 * oF.length + ok + 2 := rfl
    exact qPre_A ⟨by simp [h1], by omega, by omega, by omega, Or.inr (Or.inl ⟨rfl, h6, h7, h8, h9, by omega, h11, by rw [h12]; simp⟩)⟩ (by omega) (by omega) (by omega)
  · have e3 : tRem (2, ok, [], nF, [], nR) = ok + 1 := rfl
    exact qPre_A ⟨by simp [h1], by omega, by omega, by omega, Or.inr (Or.inr (Or.inl ⟨rfl, h6, h7, h8, rfl, rfl, by omega, h12, by rw [h13]; simp⟩))⟩ (by omega) (by omega) (by omega)
  · exact absurd rfl j1
theorem qTake_pre {b p : Nat} {x : Int32} {ys : List Int32} {q : mQ} (hp : 2 ≤ p) (h : qJ b (x :: ys) q) : qPre b ys p (qTake q) := by
  obtain ⟨f, r, fl, rl, k, ok, oF, nF, oR, nR⟩ := q
  obtain ⟨⟨h1, h2, h3, h4, h5⟩, j1, j2, j3, j4⟩ := h
  simp only at j1 j2 j3 j4
  simp only [List.length_cons] at h2
  rcases h5 with ⟨rfl, rfl, rfl, rfl, rfl, rfl, h6, h7⟩ | ⟨rfl, h6, h7, h8, h9, h10, h11, h12⟩ | ⟨rfl, h6, h7, h8, rfl, rfl, h11, h12, h13⟩ | ⟨rfl, h6, h7, -⟩
  · have := j2 rfl
    cases f with
    | nil => simp at h6; omega
    | cons a f =>
      simp at h7
      simp at h6 h3
      obtain ⟨rfl, h7⟩ := h7
      by_cases hl : rl ≤ fl - 1
      · exact qPre_A (T := t0) ⟨h1, by omega, by simp; omega, by omega, Or.inl ⟨rfl, rfl, rfl, rfl, rfl, rfl, by simp; omega, h7⟩⟩ hl (Nat.zero_le _) (by show 0 + 2 * rl ≤ _; omega)
      · rw [h7]
        exact qPre_B hp (by omega) h1 (by omega) (by omega)
  · have e3 : tRem (1, ok, oF, nF, oR, nR) = 2 * oF.length + ok + 2 := rfl
    have e4 : f.length = ok + oF.length := by rw [h7]; simp [Nat.min_eq_left h6]
    have ho : 2 ≤ ok := by omega
    obtain ⟨o1, rfl⟩ : ∃ o1, ok = o1 + 1 := ⟨ok - 1, by omega⟩
    cases hf : f with
    | nil => rw [hf] at e4; simp at e4; omega
    | cons a f1 =>
      rw [hf] at h7 h12 h11 e4 h3
      have hnt : (nF.take (o1 + 1)).reverse = nF[o1]'(by omega) :: (nF.take o1).reverse := by
        rw [List.take_succ, List.getElem?_eq_getElem (show o1 < nF.length by omega)]
        simp only [Option.toList_some, List.reverse_append, List.reverse_cons, List.reverse_nil, List.nil_append, List.singleton_append]
      have hf1 : f1 = (nF.take o1).reverse ++ oF := by
        rw [hnt, List.cons_append] at h7
        exact (List.cons.inj h7).2
      simp at h12
      simp at e4 h3 h11
      have e5 : tRem (1, o1, oF, nF, oR, nR) = 2 * oF.length + o1 + 2 := rfl
      show qPre b ys p (f1, r, fl - 1, rl, (1, o1, oF, nF, oR, nR))
      exact qPre_A ⟨h1, by omega, by omega, by omega, Or.inr (Or.inl ⟨rfl, by omega, hf1, h8, h9, h10, by omega, by rw [h12.2]⟩)⟩ (by omega) (by rw [hf] at j3; simp at j3; omega) (by omega)
  · have e3 : tRem (2, ok, [], nF, [], nR) = ok + 1 := rfl
    cases ok with
    | zero =>
      simp at h13
      cases nR with
      | nil => simp at h12; omega
      | cons a nR =>
        simp at h13 h12
        show qPre b ys p (f.tail, r, fl - 1, rl, (3, 0, [], [], [], nR))
        exact qPre_A ⟨h1, by omega, by simp; omega, by omega, Or.inr (Or.inr (Or.inr ⟨rfl, by omega, h13.2, rfl, rfl, rfl, rfl⟩))⟩ (by omega) (Nat.zero_le _) (by show 0 + 2 * rl ≤ _; omega)
    | succ ok =>
      cases f with
      | nil => simp at h7
      | cons a f =>
        simp at h7 h3
        have hnt : (nF.take (ok + 1)).reverse = nF[ok]'(by omega) :: (nF.take ok).reverse := by
          rw [List.take_succ, List.getElem?_eq_getElem (show ok < nF.length by omega)]
          simp only [Option.toList_some, List.reverse_append, List.reverse_cons, List.reverse_nil, List.nil_append, List.singleton_append]
        rw [hnt, List.take_succ_cons] at h8
        have h8 := (List.cons.inj h8).2
        simp at h13
        have e5 : tRem (2, ok, [], nF, [], nR) = ok + 1 := rfl
        simp at j3
        show qPre b ys p (f, r, fl - 1, rl, (2, ok, [], nF, [], nR))
        exact qPre_A ⟨h1, by omega, by omega, by omega, Or.inr (Or.inr (Or.inl ⟨rfl, by omega, by omega, h8, rfl, rfl, h11, by omega, h13.2⟩))⟩ (by omega) (by omega) (by omega)
  · exact absurd rfl j1
theorem qJ.vals {b : Nat} {xs : List Int32} {q : mQ} (h : qJ b xs q) : qVals q = xs := by
  obtain ⟨f, r, fl, rl, k, ok, oF, nF, oR, nR⟩ := q
  obtain ⟨⟨h1, h2, h3, h4, h5⟩, j1, j2, j3, j4⟩ := h
  rcases h5 with ⟨rfl, rfl, rfl, rfl, rfl, rfl, h6, h7⟩ | ⟨rfl, h6, h7, h8, h9, h10, h11, h12⟩ | ⟨rfl, h6, h7, h8, rfl, rfl, h11, h12, h13⟩ | ⟨rfl, h6, h7, -⟩
  · rw [h7]; simp [qVals]
  · rw [h12]; simp [qVals]
  · rw [h13]; simp [qVals]
  · exact absurd rfl j1
theorem qJ.up {b : Nat} {xs : List Int32} {q : mQ} (h : qJ b xs q) : qJ (b + 1) xs q := by
  obtain ⟨f, r, fl, rl, k, ok, oF, nF, oR, nR⟩ := q
  obtain ⟨⟨h1, h2, h3, h4, h5⟩, j⟩ := h
  refine ⟨⟨h1, h2, by omega, by omega, ?_⟩, j⟩
  rcases h5 with g | ⟨rfl, h6, h7, h8, h9, h10, h11, h12⟩ | ⟨rfl, h6, h7, h8, rfl, rfl, h11, h12, h13⟩ | g
  · exact Or.inl g
  · exact Or.inr (Or.inl ⟨rfl, h6, h7, h8, h9, by omega, h11, h12⟩)
  · exact Or.inr (Or.inr (Or.inl ⟨rfl, h6, h7, h8, rfl, rfl, by omega, h12, h13⟩))
  · exact Or.inr (Or.inr (Or.inr g))
/-- the values by the way; the latest op stands first -/
def wVals : List mO → List Int32
  | [] => []
  | o :: os => if o.1 = -1 then (wVals os).tail else wVals os ++ [o.1]
def wOk : List mO → Prop
  | [] => True
  | o :: os => wOk os ∧ 2 ≤ o.2 ∧ o.2 ≤ 4 ∧ (o.1 = -1 → wVals os ≠ []) ∧ (o.1 ≠ -1 → ∃ j : Nat, j < 100 ∧ o.1 = nI j)
theorem qOf_J : ∀ {os : List mO}, wOk os → qJ os.length (wVals os) (qOf os).1
  | [], _ => qJ_0
  | o :: os, h => by
    obtain ⟨h1, h2, h3, h4, h5⟩ := h
    have ih := qOf_J h1
    show qJ (os.length + 1) (wVals (o :: os)) (qOp (qOf os).1 o).1
    unfold qOp wVals
    by_cases ho : o.1 = -1
    · rw [if_pos ho, if_pos ho]
      cases hw : wVals os with
      | nil => exact absurd hw (h4 ho)
      | cons x ys =>
        rw [hw] at ih
        exact qJ.up (qSettle_J (qTake_pre h2 ih))
    · rw [if_neg ho, if_neg ho]
      exact qSettle_J (qPut_pre h2 o.1 ih)

/-! the cells of the worlds -/
/-- LoanSchedule$Book: loans, amounts, interests, next, kept -/
abbrev oX0 (h : Nat) (f0 : Nat) (f1 : Nat) (f2 : Nat) (f3 : Int) (f4 : Int) : Nat × va_E := (h, .inr (0, [.ref f0, .ref f1, .ref f2, .int (iI f3), .int (iI f4)]))
/-- LoanSchedule$History: plans, next, kept -/
abbrev oX1 (h : Nat) (f0 : Nat) (f1 : Int) (f2 : Int) : Nat × va_E := (h, .inr (1, [.ref f0, .int (iI f1), .int (iI f2)]))
/-- LoanSchedule$Loan: principal, balance, rate, monthsLeft, installment, carry, interestSum, paidSum, settledCount, deferredCount -/
abbrev oX2 (h : Nat) (f0 : Int) (f1 : Int) (f2 : Int) (f3 : Int) (f4 : Int) (f5 : Int) (f6 : Int) (f7 : Int) (f8 : Int) (f9 : Int) : Nat × va_E := (h, .inr (2, [.int (iI f0), .int (iI f1), .int (iI f2), .int (iI f3), .int (iI f4), .int (iI f5), .int (iI f6), .int (iI f7), .int (iI f8), .int (iI f9)]))
/-- LoanSchedule$Plan: loans, book, count -/
abbrev oX3 (h : Nat) (f0 : Nat) (f1 : Nat) (f2 : Int) : Nat × va_E := (h, .inr (3, [.ref f0, .ref f1, .int (iI f2)]))
/-- LoanSchedule$Report: bytes, size -/
abbrev oX4 (h : Nat) (f0 : Nat) (f1 : Int) : Nat × va_E := (h, .inr (4, [.ref f0, .int (iI f1)]))
/-- LoanSchedule$Script: tokens, target, ended, executed, depth, bodyStart, passesLeft, executedBefore, first, second, third, keepTerm, errorKind, errorOffset -/
abbrev oX5 (h : Nat) (f0 : Nat) (f1 : Nat) (f2 : Int) (f3 : Int) (f4 : Int) (f5 : Nat) (f6 : Nat) (f7 : Nat) (f8 : Int) (f9 : Int) (f10 : Int) (f11 : Int) (f12 : Int) (f13 : Int) : Nat × va_E := (h, .inr (5, [.ref f0, .ref f1, .int (iI f2), .int (iI f3), .int (iI f4), .ref f5, .ref f6, .ref f7, .int (iI f8), .int (iI f9), .int (iI f10), .int (iI f11), .int (iI f12), .int (iI f13)]))
/-- LoanSchedule$Tokens: text, length, position, start, kind, value -/
abbrev oX6 (h : Nat) (f0 : Nat) (f1 : Int) (f2 : Int) (f3 : Int) (f4 : Int) (f5 : Int) : Nat × va_E := (h, .inr (6, [.ref f0, .int (iI f1), .int (iI f2), .int (iI f3), .int (iI f4), .int (iI f5)]))
/-- LoanSchedule: input, inputSize, plan, history, snapshot, snapshotSaved, report, trialPlan, trialLoan, aheadLoan, script -/
abbrev oX7 (h : Nat) (f0 : Nat) (f1 : Int) (f2 : Nat) (f3 : Nat) (f4 : Nat) (f5 : Int) (f6 : Nat) (f7 : Nat) (f8 : Nat) (f9 : Nat) (f10 : Nat) : Nat × va_E := (h, .inr (7, [.ref f0, .int (iI f1), .ref f2, .ref f3, .ref f4, .int (iI f5), .ref f6, .ref f7, .ref f8, .ref f9, .ref f10]))
abbrev arI (X : KX) (a n : Nat) (g : Nat → Int) : Nat × va_E := (a, .inl (X.cI, n, .inl (aI g)))
abbrev arB (X : KX) (a n : Nat) (g : Nat → Int) : Nat × va_E := (a, .inl (X.cB, n, .inl (aI g)))
abbrev arN (X : KX) (a n : Nat) (f : Nat → Nat) : Nat × va_E := (a, .inl (X.cN, n, .inr (.inr (.inr (.inr (fun j => some (f j)))))))
abbrev arP (X : KX) (a n : Nat) (f : Nat → Nat) : Nat × va_E := (a, .inl (X.cP, n, .inr (.inr (.inr (.inr (fun j => some (f j)))))))
/-- six loans -/
abbrev lsW (b : Nat → Nat) (L : Nat → Nat → Int) : va_W := [oX2 (b 0) (L 0 0) (L 0 1) (L 0 2) (L 0 3) (L 0 4) (L 0 5) (L 0 6) (L 0 7) (L 0 8) (L 0 9), oX2 (b 1) (L 1 0) (L 1 1) (L 1 2) (L 1 3) (L 1 4) (L 1 5) (L 1 6) (L 1 7) (L 1 8) (L 1 9), oX2 (b 2) (L 2 0) (L 2 1) (L 2 2) (L 2 3) (L 2 4) (L 2 5) (L 2 6) (L 2 7) (L 2 8) (L 2 9), oX2 (b 3) (L 3 0) (L 3 1) (L 3 2) (L 3 3) (L 3 4) (L 3 5) (L 3 6) (L 3 7) (L 3 8) (L 3 9), oX2 (b 4) (L 4 0) (L 4 1) (L 4 2) (L 4 3) (L 4 4) (L 4 5) (L 4 6) (L 4 7) (L 4 8) (L 4 9), oX2 (b 5) (L 5 0) (L 5 1) (L 5 2) (L 5 3) (L 5 4) (L 5 5) (L 5 6) (L 5 7) (L 5 8) (L 5 9)]
def uF {α : Type} (L : Nat → α) (i : Nat) (x : α) : Nat → α := fun j => if j = i then x else L j
theorem uF_s {α : Type} {L : Nat → α} {i : Nat} {x : α} : uF L i x i = x := if_pos rfl
theorem uF_n {α : Type} {L : Nat → α} {i j : Nat} {x : α} (h : j ≠ i) : uF L i x j = L j := if_neg h
theorem ls_at {b : Nat → Nat} {L : Nat → Nat → Int} {i : Nat} (hi : i < 6) : (lsW b L)[i]? = some (oX2 (b i) (L i 0) (L i 1) (L i 2) (L i 3) (L i 4) (L i 5) (L i 6) (L i 7) (L i 8) (L i 9)) := by
  match i, hi with
  | 0, _ => rfl
  | 1, _ => rfl
  | 2, _ => rfl
  | 3, _ => rfl
  | 4, _ => rfl
  | 5, _ => rfl
theorem ls_set {b : Nat → Nat} {L : Nat → Nat → Int} {i : Nat} (hi : i < 6) (f : Nat → Int) : (lsW b L).set i (oX2 (b i) (f 0) (f 1) (f 2) (f 3) (f 4) (f 5) (f 6) (f 7) (f 8) (f 9)) = lsW b (uF L i f) := by
  match i, hi with
  | 0, _ => rfl
  | 1, _ => rfl
  | 2, _ => rfl
  | 3, _ => rfl
  | 4, _ => rfl
  | 5, _ => rfl
theorem lsW_at {pre post : va_W} {b : Nat → Nat} {L : Nat → Nat → Int} {k i : Nat} (hk : pre.length = k) (hi : i < 6) : (pre ++ (lsW b L ++ post))[k + i]? = some (oX2 (b i) (L i 0) (L i 1) (L i 2) (L i 3) (L i 4) (L i 5) (L i 6) (L i 7) (L i 8) (L i 9)) := by
  subst hk
  rw [List.getElem?_append_right (Nat.le_add_right _ _), Nat.add_sub_cancel_left, List.getElem?_append_left (show i < 6 from hi)]
  exact ls_at hi
theorem lsW_atE {pre : va_W} {b : Nat → Nat} {L : Nat → Nat → Int} {k i : Nat} (hk : pre.length = k) (hi : i < 6) : (pre ++ lsW b L)[k + i]? = some (oX2 (b i) (L i 0) (L i 1) (L i 2) (L i 3) (L i 4) (L i 5) (L i 6) (L i 7) (L i 8) (L i 9)) := by
  subst hk
  rw [List.getElem?_append_right (Nat.le_add_right _ _), Nat.add_sub_cancel_left]
  exact ls_at hi
theorem lsW_set {pre post : va_W} {b : Nat → Nat} {L : Nat → Nat → Int} {k i : Nat} (hk : pre.length = k) (hi : i < 6) (f : Nat → Int) : (pre ++ (lsW b L ++ post)).set (k + i) (oX2 (b i) (f 0) (f 1) (f 2) (f 3) (f 4) (f 5) (f 6) (f 7) (f 8) (f 9)) = pre ++ (lsW b (uF L i f) ++ post) := by
  subst hk
  rw [List.set_append_right _ _ (Nat.le_add_right _ _), Nat.add_sub_cancel_left, List.set_append_left _ _ (show i < 6 from hi), ls_set hi]
theorem lsW_setE {pre : va_W} {b : Nat → Nat} {L : Nat → Nat → Int} {k i : Nat} (hk : pre.length = k) (hi : i < 6) (f : Nat → Int) : (pre ++ lsW b L).set (k + i) (oX2 (b i) (f 0) (f 1) (f 2) (f 3) (f 4) (f 5) (f 6) (f 7) (f 8) (f 9)) = pre ++ lsW b (uF L i f) := by
  subst hk
  rw [List.set_append_right _ _ (Nat.le_add_right _ _), Nat.add_sub_cancel_left, ls_set hi]
theorem lo_set_same {ws : va_W} {p : Nat} {w : Nat × va_E} (h : ws[p]? = some w) : ws.set p w = ws := by
  apply List.ext_getElem?
  intro i
  by_cases e : p = i
  · subst e
    rw [List.getElem?_set_self (List.getElem?_eq_some_iff.mp h).1, h]
  · rw [List.getElem?_set_ne e]
theorem lsW_cE1 {pre : va_W} {b : Nat → Nat} {L : Nat → Nat → Int} {k i : Nat} (hk : pre.length = k) (hi : i < 6) (f : Nat → Int) : lo_sets (pre ++ lsW b L) [k + i] [oX2 (b i) (f 0) (f 1) (f 2) (f 3) (f 4) (f 5) (f 6) (f 7) (f 8) (f 9)] = pre ++ lsW b (uF L i f) := lsW_setE hk hi f
theorem lsW_cE0 {pre : va_W} {b : Nat → Nat} {L : Nat → Nat → Int} {k i : Nat} (hk : pre.length = k) (hi : i < 6) : lo_sets (pre ++ lsW b L) [k + i] [oX2 (b i) (L i 0) (L i 1) (L i 2) (L i 3) (L i 4) (L i 5) (L i 6) (L i 7) (L i 8) (L i 9)] = pre ++ lsW b L := lo_set_same (lsW_atE hk hi)
theorem lo_ps_nil {ws : va_W} : ([] : List Nat).map (fun i => ws[i]?) = ([] : va_W).map some := rfl
theorem lo_ps_cons {ws w0 : va_W} {p : Nat} {ps : List Nat} {w : Nat × va_E} (h : ws[p]? = some w) (hs : ps.map (fun i => ws[i]?) = w0.map some) : (p :: ps).map (fun i => ws[i]?) = (w :: w0).map some := by rw [List.map_cons, List.map_cons, h, hs]
theorem lo_cast {X : KX} {ws ws2 : va_W} {A : Nat → Prop} {H0 H : Heap} {locs : List Loc} (h : ws = ws2) (hw : lo_Wd X ws A H0 H locs) : lo_Wd X ws2 A H0 H locs := h ▸ hw
theorem lsW_at2 {pre : va_W} {b g : Nat → Nat} {L M : Nat → Nat → Int} {k i : Nat} (hk : pre.length + 6 = k) (hi : i < 6) : (pre ++ (lsW b L ++ lsW g M))[k + i]? = some (oX2 (g i) (M i 0) (M i 1) (M i 2) (M i 3) (M i 4) (M i 5) (M i 6) (M i 7) (M i 8) (M i 9)) := by
  subst hk
  rw [Nat.add_assoc, List.getElem?_append_right (Nat.le_add_right _ _), Nat.add_sub_cancel_left, List.getElem?_append_right (show 6 ≤ 6 + i by omega), show 6 + i - (lsW b L).length = i from (show 6 + i - 6 = i by omega)]
  exact ls_at hi
theorem lsW_cp {pre : va_W} {b g : Nat → Nat} {L M : Nat → Nat → Int} {k k2 i : Nat} (hk : pre.length = k) (hk2 : pre.length + 6 = k2) (hi : i < 6) : lo_sets (pre ++ (lsW b L ++ lsW g M)) [k + i, k2 + i] [oX2 (b i) (M i 0) (M i 1) (M i 2) (M i 3) (M i 4) (M i 5) (M i 6) (M i 7) (M i 8) (M i 9), oX2 (g i) (M i 0) (M i 1) (M i 2) (M i 3) (M i 4) (M i 5) (M i 6) (M i 7) (M i 8) (M i 9)] = pre ++ (lsW b (uF L i (M i)) ++ lsW g M) := by
  show ((pre ++ (lsW b L ++ lsW g M)).set (k + i) _).set (k2 + i) _ = _
  rw [lsW_set hk hi (M i)]
  exact lo_set_same (lsW_at2 hk2 hi)

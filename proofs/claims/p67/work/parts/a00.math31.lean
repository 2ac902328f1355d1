/-! what a command does to the row; the script as a machine that goes step by step -/
noncomputable def exe (c : Int) (y : PAR) (w : Nat → Int) : Option (Nat → Int) :=
  if c = 1 then (if w 0 < 6 then some (wNew w y.1 y.2.1 y.2.2.1) else none)
  else if c = 2 then (if 0 < wOf w y.1 1 then some (wPay w y.1) else none)
  else if c = 3 then some (wAll w (w 0).toNat)
  else if c = 4 then (if 0 < wOf w y.1 1 ∧ y.2.1 ≤ wOf w y.1 1 then some (wRed w y.1 y.2.1 y.2.2.2.1) else none)
  else if c = 5 then (if 0 < wOf w y.1 1 ∧ wOf w y.1 9 < 6 ∧ fW (wOf w y.1 1) (wOf w y.1 2) (wOf w y.1 5) ≤ 9999999 then some (wDef w y.1) else none)
  else if c = 6 then (if 0 < wOf w y.1 1 then some (wRate w y.1 y.2.1) else none)
  else (if 0 < wOf w y.1 1 ∧ wOf w y.1 3 + y.2.1 ≤ 120 then some (wLong w y.1 y.2.1) else none)
/-- place, executed, depth; starts, passes left, executed before; the row -/
abbrev SS := (Int × Int × Int × (Nat → Int) × (Nat → Int) × (Nat → Int) × (Nat → Int)) ⊕ ((Nat → Int) ⊕ (Int × Int))
abbrev sRun (p x d : Int) (f g h w : Nat → Int) : SS := Sum.inl (p, x, d, f, g, h, w)
abbrev sFin (w : Nat → Int) : SS := Sum.inr (Sum.inl w)
abbrev sBad (k o : Int) : SS := Sum.inr (Sum.inr (k, o))
noncomputable def stp (T : Nat → Int) (n : Int) : SS → SS
  | Sum.inr (Sum.inl w) => sFin w
  | Sum.inr (Sum.inr (k, o)) => sBad k o
  | Sum.inl (p, x, d, f, g, h, w) =>
    if toK T n p = 0 ∧ d = 0 then sFin w
    else if toK T n p = 3 ∧ T (toB T n p).toNat = 41 ∧ 0 < d then
      (if 1 < g (d - 1).toNat ∧ h (d - 1).toNat < x then sRun (f (d - 1).toNat) x d f (uI g (d - 1).toNat (g (d - 1).toNat - 1)) (uI h (d - 1).toNat x) w
      else match exS T n 59 (toE T n p) with
        | .ok q => sRun q.2 x (d - 1) f (uI g (d - 1).toNat (g (d - 1).toNat - 1)) h w
        | .error e => sBad e.1 e.2)
    else if cw T n p = 0 then sBad 1 (toB T n p)
    else if cw T n p = 8 then (if d = 3 then sBad 4 (toB T n p) else match exR T n (toE T n p) with
        | .ok q => sRun q.2 x (d + 1) (uI f d.toNat q.2) (uI g d.toNat q.1) (uI h d.toNat x) w
        | .error e => sBad e.1 e.2)
    else if 300 ≤ x then sBad 5 (toB T n p)
    else match prm T n (cw T n p) (w 0) (toE T n p) with
      | .error e => sBad e.1 e.2
      | .ok y => match exe (cw T n p) y w with
        | none => sBad 3 y.2.2.2.2.1
        | some v => sRun y.2.2.2.2.2 (x + 1) d f g h v
section STP
variable {T : Nat → Int} {n p x d : Int} {f g h w : Nat → Int}
theorem stp_fin (h1 : toK T n p = 0) (h2 : d = 0) : stp T n (sRun p x d f g h w) = sFin w := if_pos ⟨h1, h2⟩
theorem stp_again (h1 : toK T n p = 3) (h2 : T (toB T n p).toNat = 41) (h3 : 0 < d) (h4 : 1 < g (d - 1).toNat ∧ h (d - 1).toNat < x) : stp T n (sRun p x d f g h w) = sRun (f (d - 1).toNat) x d f (uI g (d - 1).toNat (g (d - 1).toNat - 1)) (uI h (d - 1).toNat x) w :=
  (if_neg (by omega)).trans ((if_pos ⟨h1, h2, h3⟩).trans (if_pos h4))
theorem stp_leave (h1 : toK T n p = 3) (h2 : T (toB T n p).toNat = 41) (h3 : 0 < d) (h4 : ¬ (1 < g (d - 1).toNat ∧ h (d - 1).toNat < x)) : stp T n (sRun p x d f g h w) = (match exS T n 59 (toE T n p) with
        | .ok q => sRun q.2 x (d - 1) f (uI g (d - 1).toNat (g (d - 1).toNat - 1)) h w
        | .error e => sBad e.1 e.2) :=
  (if_neg (by omega)).trans ((if_pos ⟨h1, h2, h3⟩).trans (if_neg h4))
theorem stp_leaveY {q : Int × Int} (h1 : toK T n p = 3) (h2 : T (toB T n p).toNat = 41) (h3 : 0 < d) (h4 : ¬ (1 < g (d - 1).toNat ∧ h (d - 1).toNat < x)) (h5 : exS T n 59 (toE T n p) = .ok q) : stp T n (sRun p x d f g h w) = sRun q.2 x (d - 1) f (uI g (d - 1).toNat (g (d - 1).toNat - 1)) h w := by
  rw [stp_leave h1 h2 h3 h4, h5]
theorem stp_leaveN {e : Int × Int} (h1 : toK T n p = 3) (h2 : T (toB T n p).toNat = 41) (h3 : 0 < d) (h4 : ¬ (1 < g (d - 1).toNat ∧ h (d - 1).toNat < x)) (h5 : exS T n 59 (toE T n p) = .error e) : stp T n (sRun p x d f g h w) = sBad e.1 e.2 := by
  rw [stp_leave h1 h2 h3 h4, h5]
theorem stp_none (h1 : ¬ (toK T n p = 0 ∧ d = 0)) (h2 : ¬ (toK T n p = 3 ∧ T (toB T n p).toNat = 41 ∧ 0 < d)) (h3 : cw T n p = 0) : stp T n (sRun p x d f g h w) = sBad 1 (toB T n p) :=
  (if_neg h1).trans ((if_neg h2).trans (if_pos h3))
theorem cw_1 (h : cw T n p ≠ 0) : toK T n p = 1 := (cw_r T n p).2.2 h
theorem stp_c (h3 : cw T n p ≠ 0) : stp T n (sRun p x d f g h w) = (if cw T n p = 8 then (if d = 3 then sBad 4 (toB T n p) else match exR T n (toE T n p) with
        | .ok q => sRun q.2 x (d + 1) (uI f d.toNat q.2) (uI g d.toNat q.1) (uI h d.toNat x) w
        | .error e => sBad e.1 e.2)
    else if 300 ≤ x then sBad 5 (toB T n p)
    else match prm T n (cw T n p) (w 0) (toE T n p) with
      | .error e => sBad e.1 e.2
      | .ok y => match exe (cw T n p) y w with
        | none => sBad 3 y.2.2.2.2.1
        | some v => sRun y.2.2.2.2.2 (x + 1) d f g h v) := by
  have := cw_1 h3
  exact (if_neg (by omega)).trans ((if_neg (by omega)).trans (if_neg h3))
theorem stp_deep (h3 : cw T n p = 8) (h4 : d = 3) : stp T n (sRun p x d f g h w) = sBad 4 (toB T n p) :=
  (stp_c (by omega)).trans ((if_pos h3).trans (if_pos h4))
theorem stp_rep (h3 : cw T n p = 8) (h4 : d ≠ 3) : stp T n (sRun p x d f g h w) = (match exR T n (toE T n p) with
        | .ok q => sRun q.2 x (d + 1) (uI f d.toNat q.2) (uI g d.toNat q.1) (uI h d.toNat x) w
        | .error e => sBad e.1 e.2) :=
  (stp_c (by omega)).trans ((if_pos h3).trans (if_neg h4))
theorem stp_repY {q : Int × Int} (h3 : cw T n p = 8) (h4 : d ≠ 3) (h5 : exR T n (toE T n p) = .ok q) : stp T n (sRun p x d f g h w) = sRun q.2 x (d + 1) (uI f d.toNat q.2) (uI g d.toNat q.1) (uI h d.toNat x) w := by rw [stp_rep h3 h4, h5]
theorem stp_repN {e : Int × Int} (h3 : cw T n p = 8) (h4 : d ≠ 3) (h5 : exR T n (toE T n p) = .error e) : stp T n (sRun p x d f g h w) = sBad e.1 e.2 := by rw [stp_rep h3 h4, h5]
theorem stp_many (h3 : 1 ≤ cw T n p ∧ cw T n p ≤ 7) (h4 : 300 ≤ x) : stp T n (sRun p x d f g h w) = sBad 5 (toB T n p) :=
  (stp_c (by omega)).trans ((if_neg (by omega)).trans (if_pos h4))
theorem stp_cmd {c : Int} (h3 : cw T n p = c) (h4 : 1 ≤ c ∧ c ≤ 7) (h5 : x < 300) : stp T n (sRun p x d f g h w) = (match prm T n c (w 0) (toE T n p) with
      | .error e => sBad e.1 e.2
      | .ok y => match exe c y w with
        | none => sBad 3 y.2.2.2.2.1
        | some v => sRun y.2.2.2.2.2 (x + 1) d f g h v) := by
  subst h3
  exact (stp_c (by omega)).trans ((if_neg (by omega)).trans (if_neg (by omega)))
theorem stp_cmdE {c : Int} {e : Int × Int} (h3 : cw T n p = c) (h4 : 1 ≤ c ∧ c ≤ 7) (h5 : x < 300) (h6 : prm T n c (w 0) (toE T n p) = .error e) : stp T n (sRun p x d f g h w) = sBad e.1 e.2 := by rw [stp_cmd h3 h4 h5, h6]
theorem stp_cmdN {c : Int} {y : PAR} (h3 : cw T n p = c) (h4 : 1 ≤ c ∧ c ≤ 7) (h5 : x < 300) (h6 : prm T n c (w 0) (toE T n p) = .ok y) (h7 : exe c y w = none) : stp T n (sRun p x d f g h w) = sBad 3 y.2.2.2.2.1 := by
  rw [stp_cmd h3 h4 h5, h6]
  show (match exe c y w with | none => sBad 3 y.2.2.2.2.1 | some v => _) = _
  rw [h7]
theorem stp_cmdY {c : Int} {y : PAR} {v : Nat → Int} (h3 : cw T n p = c) (h4 : 1 ≤ c ∧ c ≤ 7) (h5 : x < 300) (h6 : prm T n c (w 0) (toE T n p) = .ok y) (h7 : exe c y w = some v) : stp T n (sRun p x d f g h w) = sRun y.2.2.2.2.2 (x + 1) d f g h v := by
  rw [stp_cmd h3 h4 h5, h6]
  show (match exe c y w with | none => _ | some v => sRun y.2.2.2.2.2 (x + 1) d f g h v) = _
  rw [h7]
end STP
/-- where a machine of depth D stands still -/
def frz (T : Nat → Int) (n D : Int) : SS → Prop
  | Sum.inl (p, _, d, _, _, _, _) => 1 ≤ d ∧ d ≤ D ∧ toK T n p = 3 ∧ T (toB T n p).toNat = 41
  | Sum.inr _ => True
def RCk (T : Nat → Int) (n D : Int) : Nat → SS → SS → Prop
  | 0, S, A => S = A
  | k + 1, S, A => ¬ frz T n D S ∧ RCk T n D k (stp T n S) A
def RCH (T : Nat → Int) (n D : Int) (S A : SS) : Prop := ∃ k, RCk T n D k S A
theorem RCH.rf {T : Nat → Int} {n D : Int} (S : SS) : RCH T n D S S := ⟨0, rfl⟩
theorem RCk_tr {T : Nat → Int} {n D : Int} {A B : SS} : ∀ (j k : Nat) (S : SS), RCk T n D j S A → RCk T n D k A B → RCH T n D S B
  | 0, k, S, h, h2 => by
    have e : S = A := h
    rw [e]; exact ⟨k, h2⟩
  | j + 1, k, S, h, h2 => by
    obtain ⟨m, hm⟩ := RCk_tr j k (stp T n S) h.2 h2
    exact ⟨m + 1, h.1, hm⟩
theorem RCH.tr {T : Nat → Int} {n D : Int} {S A B : SS} (h : RCH T n D S A) (k : RCH T n D A B) : RCH T n D S B := by
  obtain ⟨i, hi⟩ := h
  obtain ⟨j, hj⟩ := k
  exact RCk_tr i j S hi hj
theorem RCH.one {T : Nat → Int} {n D : Int} {A B : SS} (hf : ¬ frz T n D A) (e : stp T n A = B) : RCH T n D A B := ⟨1, hf, e⟩
theorem RCH.sn {T : Nat → Int} {n D : Int} {S A B : SS} (h : RCH T n D S A) (hf : ¬ frz T n D A) (e : stp T n A = B) : RCH T n D S B := h.tr (RCH.one hf e)
theorem frz_mono {T : Nat → Int} {n D E : Int} (hDE : D ≤ E) {S : SS} (h : frz T n D S) : frz T n E S := by
  rcases S with ⟨p, x, d, f, g, q, w⟩ | r
  · exact ⟨h.1, by have := h.2.1; omega, h.2.2⟩
  · trivial
theorem RCk_mono {T : Nat → Int} {n D E : Int} (hDE : D ≤ E) {A : SS} : ∀ (k : Nat) (S : SS), RCk T n E k S A → RCk T n D k S A
  | 0, _, h => h
  | k + 1, S, h => ⟨fun q => h.1 (frz_mono hDE q), RCk_mono hDE k _ h.2⟩
theorem RCH.mono {T : Nat → Int} {n D E : Int} {S A : SS} (hDE : D ≤ E) (h : RCH T n E S A) : RCH T n D S A := by
  obtain ⟨k, hk⟩ := h
  exact ⟨k, RCk_mono hDE k S hk⟩
theorem frz_n {T : Nat → Int} {n D p x d : Int} {f g h w : Nat → Int} (hd : D < d ∨ d < 1) : ¬ frz T n D (sRun p x d f g h w) := fun q => by have := q.1; have := q.2.1; omega
/-- how far a run can go: ix steps, place p, depth d -/
def MZ (ix p x d : Int) (h : Nat → Int) : Prop := ∃ a b c : Int, (0 ≤ a ∧ a ≤ x) ∧ (0 ≤ b ∧ b ≤ x) ∧ (0 ≤ c ∧ c ≤ x) ∧ (0 < d → h 0 = a) ∧ (1 < d → h 1 = b) ∧ (2 < d → h 2 = c) ∧ ix ≤ 501 * (a + b + c) + p
theorem MZ_0 {p : Int} {h : Nat → Int} (hp : 0 ≤ p) : MZ 0 p 0 0 h := ⟨0, 0, 0, by omega, by omega, by omega, by omega, by omega, by omega, by omega⟩
theorem MZ_m {ix p x d : Int} {h : Nat → Int} (hx : x ≤ 300) (hp : p ≤ 500) (k : MZ ix p x d h) : ix ≤ 451400 := by
  obtain ⟨a, b, c, h1, h2, h3, -, -, -, h4⟩ := k
  omega
theorem MZ_again {ix p q x d : Int} {h : Nat → Int} (hd : 1 ≤ d ∧ d ≤ 3) (hp : p ≤ 500) (hq : 0 ≤ q) (hl : h (d - 1).toNat < x) (k : MZ ix p x d h) : MZ (ix + 1) q x d (uI h (d - 1).toNat x) := by
  obtain ⟨a, b, c, h1, h2, h3, h4, h5, h6, h7⟩ := k
  have hd' : d = 1 ∨ d = 2 ∨ d = 3 := by omega
  rcases hd' with rfl | rfl | rfl
  · have := h4 (by omega)
    change h 0 < x at hl
    exact ⟨x, b, c, by omega, by omega, by omega, fun _ => uI_s, fun q => by omega, fun q => by omega, by omega⟩
  · have := h4 (by omega)
    have := h5 (by omega)
    change h 1 < x at hl
    exact ⟨a, x, c, by omega, by omega, by omega, fun q => (uI_n (by omega)).trans (h4 (by omega)), fun _ => uI_s, fun q => by omega, by omega⟩
  · have := h6 (by omega)
    change h 2 < x at hl
    exact ⟨a, b, x, by omega, by omega, by omega, fun q => (uI_n (by omega)).trans (h4 (by omega)), fun q => (uI_n (by omega)).trans (h5 (by omega)), fun _ => uI_s, by omega⟩
theorem MZ_leave {ix p q x d e : Int} {h : Nat → Int} (he : e ≤ d) (hq : p < q) (k : MZ ix p x d h) : MZ (ix + 1) q x e h := by
  obtain ⟨a, b, c, h1, h2, h3, h4, h5, h6, h7⟩ := k
  exact ⟨a, b, c, h1, h2, h3, fun q => h4 (by omega), fun q => h5 (by omega), fun q => h6 (by omega), by omega⟩
theorem MZ_cmd {ix p q x d : Int} {h : Nat → Int} (hq : p < q) (k : MZ ix p x d h) : MZ (ix + 1) q (x + 1) d h := by
  obtain ⟨a, b, c, h1, h2, h3, h4, h5, h6, h7⟩ := k
  exact ⟨a, b, c, by omega, by omega, by omega, h4, h5, h6, by omega⟩
theorem MZ_rep {ix p q x d : Int} {h : Nat → Int} (hd : 0 ≤ d ∧ d < 3) (hq : p < q) (k : MZ ix p x d h) : MZ (ix + 1) q x (d + 1) (uI h d.toNat x) := by
  obtain ⟨a, b, c, h1, h2, h3, h4, h5, h6, h7⟩ := k
  have hd' : d = 0 ∨ d = 1 ∨ d = 2 := by omega
  rcases hd' with rfl | rfl | rfl
  · exact ⟨x, b, c, by omega, by omega, by omega, fun _ => uI_s, fun q => by omega, fun q => by omega, by omega⟩
  · exact ⟨a, x, c, by omega, by omega, by omega, fun q => (uI_n (by omega)).trans (h4 (by omega)), fun _ => uI_s, fun q => by omega, by omega⟩
  · exact ⟨a, b, x, by omega, by omega, by omega, fun q => (uI_n (by omega)).trans (h4 (by omega)), fun q => (uI_n (by omega)).trans (h5 (by omega)), fun _ => uI_s, by omega⟩

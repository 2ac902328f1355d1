/-! principals stay in their range -/
def HP (P : PT) : Prop := ∀ i : Nat, (i : Int) < Pn P → 1 ≤ PL P i 0 ∧ PL P i 0 ≤ 9999999
def HB (w : Nat → Int) : Prop := ∀ i : Nat, (i : Int) < w 0 → 1 ≤ wOf w i 0 ∧ wOf w i 0 ≤ 9999999
theorem HP_HB {P : PT} {w : Nat → Int} (h : PW P w) (q : HP P) : HB w := fun i hi => by
  rw [PW_n h] at hi
  have e : PL P i 0 = wOf w i 0 := PW_Li h hi 0 (by omega)
  rw [← e]
  exact q i hi
theorem HB_HP {P : PT} {w : Nat → Int} (h : PW P w) (q : HB w) : HP P := fun i hi => by
  have e : PL P i 0 = wOf w i 0 := PW_Li h hi 0 (by omega)
  rw [e]
  exact q i (by rw [PW_n h]; exact hi)
theorem HP_book {P : PT} {lo am it : Int} (h : HP P) : HP (plBook P lo am it) := h
theorem HP_L {P : PT} {i : Nat} {f : Nat → Int} (h : HP P) (hf : f 0 = PL P i 0) : HP (plL P i f) := fun j hj => by
  show 1 ≤ uF (PL P) i f j 0 ∧ uF (PL P) i f j 0 ≤ 9999999
  by_cases e : j = i
  · subst e
    rw [uF_s, hf]
    exact h j hj
  · rw [uF_n e]
    exact h j hj
theorem HP_pay {P : PT} {i : Int} (h : HP P) : HP (plPay P i) := HP_book (HP_L h rfl)
theorem redL_0 (L : Nat → Int) (a kp : Int) : redL L a kp 0 = L 0 := by
  unfold redL
  split
  · rfl
  · split <;> rfl
theorem HP_red {P : PT} {i a kp : Int} (h : HP P) : HP (plRed P i a kp) := HP_book (HP_L h (redL_0 _ _ _))
theorem HP_def {P : PT} {i : Nat} (h : HP P) : HP (plL P i (defL (PL P i))) := HP_L h rfl
theorem HP_set {P : PT} {i : Nat} {r m : Int} (h : HP P) : HP (plL P i (setL (PL P i) r m)) := HP_L h rfl
theorem HP_all {P : PT} (h : HP P) : ∀ k : Nat, HP (plAll P k)
  | 0 => h
  | k + 1 => by
    show HP (if 0 < PL (plAll P k) k 1 then plPay (plAll P k) k else plAll P k)
    split
    · exact HP_pay (HP_all h k)
    · exact HP_all h k
theorem HP_new {P : PT} {a r m : Int} (h : HP P) (hn : 0 ≤ Pn P) (ha : 1 ≤ a ∧ a ≤ 9999999) : HP (plNew P a r m) := fun j hj => by
  have hj : (j : Int) < Pn P + 1 := hj
  show 1 ≤ uF (PL P) (Pn P).toNat (newL a r m) j 0 ∧ uF (PL P) (Pn P).toNat (newL a r m) j 0 ≤ 9999999
  by_cases e : j = (Pn P).toNat
  · rw [e, uF_s]
    exact ha
  · rw [uF_n e]
    exact h j (by omega)
theorem HP_cp {P Q : PT} (h : HP Q) : HP (cpP P Q) := fun j hj => by
  have hj : (j : Int) < Pn Q := hj
  show 1 ≤ mixL (PL Q) (PL P) (Pn Q).toNat j 0 ∧ mixL (PL Q) (PL P) (Pn Q).toNat j 0 ≤ 9999999
  have e : mixL (PL Q) (PL P) (Pn Q).toNat j = PL Q j := if_pos (by omega)
  rw [e]
  exact h j hj
theorem HP_sp (y : Int) : ∀ (k : Nat) (P : PT) (x : Int), HP P → HP (spF y k P x).1
  | 0, P, x, h => h
  | k + 1, P, x, h => by
    show HP (if 0 < x then (if pickL y P = -1 then (P, x) else spF y k (plRed P (pickL y P) (min x (PL P (pickL y P).toNat 1)) 0) (x - min x (PL P (pickL y P).toNat 1))) else (P, x)).1
    split
    · split
      · exact h
      · exact HP_sp y k _ _ (HP_red h)
    · exact h
theorem exe_HP {P : PT} {w u : Nat → Int} {c : Int} {y : PAR} (h : PW P w) (hH : HP P) (hc : 1 ≤ c ∧ c ≤ 7) (hy : PRG c (w 0) y) (he : exe c y w = some u) : WI u ∧ HB u := by
  have hn0 := h.1.1.1
  rw [PW_n h] at hy
  have fin : ∀ (Q : PT) (v : Nat → Int), exe c y w = some v → PW Q v → HP Q → WI u ∧ HB u := fun Q v h1 h2 h3 => by
    rw [h1] at he
    cases he
    exact ⟨h2.2.1, HP_HB h2 h3⟩
  by_cases c3 : c = 3
  · subst c3
    obtain ⟨v, h1, h2⟩ := EX_all (y := y) h
    exact fin _ v h1 h2 (HP_all hH _)
  by_cases c1 : c = 1
  · subst c1
    by_cases hn : Pn P < 6
    · obtain ⟨v, h1, h2⟩ := EX_new h hn hy
      exact fin _ v h1 h2 (HP_new hH hn0 (hy.1 rfl).1)
    · have := h.1.1.2
      rw [EX_full h (by omega)] at he
      cases he
  have hc5 : c = 2 ∨ c = 4 ∨ c = 5 ∨ c = 6 ∨ c = 7 := by omega
  have hi := hy.2.1 c1 c3
  by_cases hp : PSB c (PL P y.1.toNat) y.2.1
  · have go : ∀ Q : PT, CHG c P y.1 y.2.1 y.2.2.2.1 Q → HP Q → WI u ∧ HB u := fun Q q h3 => by
      obtain ⟨v, h1, h2⟩ := EX_chg h hc5 hy rfl (fun _ => rfl) (fun _ => rfl) hp q
      exact fin Q v h1 h2 h3
    rcases hc5 with rfl | rfl | rfl | rfl | rfl
    · exact go (plPay P y.1) ⟨fun _ => rfl, fun q => absurd q (by omega), fun q => absurd q (by omega), fun q => absurd q (by omega), fun q => absurd q (by omega)⟩ (HP_pay hH)
    · exact go (plRed P y.1 y.2.1 y.2.2.2.1) ⟨fun q => absurd q (by omega), fun _ => rfl, fun q => absurd q (by omega), fun q => absurd q (by omega), fun q => absurd q (by omega)⟩ (HP_red hH)
    · exact go _ ⟨fun q => absurd q (by omega), fun q => absurd q (by omega), fun _ => rfl, fun q => absurd q (by omega), fun q => absurd q (by omega)⟩ (HP_def hH)
    · exact go _ ⟨fun q => absurd q (by omega), fun q => absurd q (by omega), fun q => absurd q (by omega), fun _ => rfl, fun q => absurd q (by omega)⟩ (HP_set hH)
    · exact go _ ⟨fun q => absurd q (by omega), fun q => absurd q (by omega), fun q => absurd q (by omega), fun q => absurd q (by omega), fun _ => rfl⟩ (HP_set hH)
  · rw [EX_no h hc5 (by omega) (fun _ => rfl) hp] at he
    cases he
def IV (n : Int) : SS → Prop
  | Sum.inl (p, _, d, f, _, _, w) => p ≤ n ∧ (∀ j : Nat, (j : Int) < d → f j ≤ n) ∧ WI w ∧ HB w
  | Sum.inr (Sum.inl w) => WI w ∧ HB w
  | Sum.inr (Sum.inr _) => True
theorem IV_run {T : Nat → Int} {n p x d : Int} {f g h w : Nat → Int} (hp : p ≤ n) (hf : ∀ j : Nat, (j : Int) < d → f j ≤ n) (hW : WI w) (hB : HB w) : IV n (stp T n (sRun p x d f g h w)) := by
  obtain ⟨⟨t1, t2, t3⟩, -, -⟩ := tok_r (T := T) hp
  have hcw := cw_r T n p
  show IV n (if toK T n p = 0 ∧ d = 0 then sFin w else if toK T n p = 3 ∧ T (toB T n p).toNat = 41 ∧ 0 < d then _ else _)
  split
  · exact ⟨hW, hB⟩
  split
  · rename_i c1 c2
    split
    · exact ⟨hf _ (by omega), hf, hW, hB⟩
    · cases e : exS T n 59 (toE T n p) with
      | error z => exact trivial
      | ok z => exact ⟨(exS_r t3 e).2.2, fun j hj => hf j (by omega), hW, hB⟩
  split
  · exact trivial
  split
  · split
    · exact trivial
    · cases e : exR T n (toE T n p) with
      | error z => exact trivial
      | ok z =>
        refine ⟨(exR_r t3 e).2.2.2, fun j hj => ?_, hW, hB⟩
        show uI f d.toNat z.2 j ≤ n
        by_cases c : j = d.toNat
        · rw [c, uI_s]; exact (exR_r t3 e).2.2.2
        · rw [uI_n c]; exact hf j (by omega)
  split
  · exact trivial
  · rename_i c1 c2 c3 c4 c5
    cases e : prm T n (cw T n p) (w 0) (toE T n p) with
    | error z => exact trivial
    | ok y =>
      have hr := prm_r (by omega) t3 e
      show IV n (match exe (cw T n p) y w with | none => sBad 3 y.2.2.2.2.1 | some v => sRun y.2.2.2.2.2 (x + 1) d f g h v)
      cases e2 : exe (cw T n p) y w with
      | none => exact trivial
      | some v =>
        obtain ⟨P, hP⟩ := PW_x hW
        obtain ⟨q1, q2⟩ := exe_HP hP (HB_HP hP hB) (by omega) hr.2 e2
        exact ⟨hr.1.2, hf, q1, q2⟩
theorem IV_stp {T : Nat → Int} {n : Int} : ∀ S : SS, IV n S → IV n (stp T n S)
  | Sum.inl (_, _, _, _, _, _, _), h => IV_run h.1 h.2.1 h.2.2.1 h.2.2.2
  | Sum.inr (Sum.inl _), h => h
  | Sum.inr (Sum.inr (_, _)), _ => trivial
theorem IV_k {T : Nat → Int} {n D : Int} {A : SS} : ∀ (k : Nat) (S : SS), IV n S → RCk T n D k S A → IV n A
  | 0, S, h, r => by
    have e : S = A := r
    rw [← e]; exact h
  | k + 1, S, h, r => IV_k k (stp T n S) (IV_stp S h) r.2
theorem IV_0 {T : Nat → Int} {n : Int} {f g h : Nat → Int} (hn : 0 ≤ n) : IV n (scS T n f g h) := by
  cases e : exL T n with
  | error z => rw [scS_e e]; exact trivial
  | ok q =>
    rw [scS_o e]
    have t := (tok_r (T := T) hn).1
    have r : q.2 ≤ n := by
      by_cases c : WD T (toK T n 0) (toB T n 0) (toE T n 0) 0
      · rw [exL_y c] at e; exact (exS_r t.2.2 e).2.2
      · rw [exL_n c] at e; cases e
    refine ⟨r, fun j hj => absurd hj (by omega), WI_0, fun i hi => absurd (show (i : Int) < 0 from hi) (by omega)⟩
/-- behind a script without an error: the loans' principals -/
theorem SCO_HP {T : Nat → Int} {n ke ko : Int} {f g h : Nat → Int} {P : PT} (hn : 0 ≤ n) (q : SCO T n (scS T n f g h) ke ko P) (hk : ke = 0) : HP P := by
  rcases q with ⟨-, w, h1, k, h2⟩ | ⟨h1, -⟩
  · exact HB_HP h1 (IV_k k _ (IV_0 hn) h2).2
  · exact absurd hk h1

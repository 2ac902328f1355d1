/-! the first script ends without an error: three loans; the law's script: none -/
theorem rk_det {T : Nat → Int} {n D : Int} {A B : SS} (hA : frz T n D A) (hB : frz T n D B) : ∀ (j k : Nat) (S : SS), RCk T n D j S A → RCk T n D k S B → A = B
  | 0, 0, S, h, h2 => by
    have e1 : S = A := h
    have e2 : S = B := h2
    rw [← e1, ← e2]
  | 0, k + 1, S, h, h2 => by
    have e1 : S = A := h
    exact absurd (by rw [e1]; exact hA) h2.1
  | j + 1, 0, S, h, h2 => by
    have e1 : S = B := h2
    exact absurd (by rw [e1]; exact hB) h.1
  | j + 1, k + 1, S, h, h2 => rk_det hA hB j k _ h.2 h2.2
theorem rh_det {T : Nat → Int} {n D : Int} {S A B : SS} (h : RCH T n D S A) (hA : frz T n D A) (k : RCH T n D S B) (hB : frz T n D B) : A = B := by
  obtain ⟨i, hi⟩ := h
  obtain ⟨j, hj⟩ := k
  exact rk_det hA hB i j S hi hj
theorem bnd_t {ε α β : Type} {x : Except ε α} {a : α} {f : α → Except ε β} {r : Except ε β} (h : x = .ok a) (h2 : f a = r) : x.bind f = r := by rw [h]; exact h2
theorem SCO_fin {T : Nat → Int} {n ke ko : Int} {f g h w : Nat → Int} {P : PT} (hs : SCO T n (scS T n f g h) ke ko P) (hr : RCH T n 0 (scS T n f g h) (sFin w)) : ke = 0 ∧ PW P w := by
  rcases hs with ⟨e, w2, h1, h2⟩ | ⟨e, h1, h2⟩
  · have q := rh_det h2 trivial hr trivial
    have q2 : w2 = w := Sum.inl.inj (Sum.inr.inj q)
    rw [← q2]
    exact ⟨e, h1⟩
  · have q := rh_det h2 trivial hr trivial
    cases q
/-- a token, as it stands -/
def TKN (T : Nat → Int) (n p k b a : Int) : Prop := toK T n p = k ∧ toB T n p = b ∧ toE T n p = a
theorem cw_t {T : Nat → Int} {n p b a : Int} (c : Nat) (hc : 1 ≤ c ∧ c ≤ 8) (h : TKN T n p 1 b a) (hl : a - b = (lo_tx c).length) (hw : ∀ k : Nat, k < (lo_tx c).length → T (b.toNat + k) = (lo_tx c).getD k 0) : cw T n p = c := by
  obtain ⟨h1, h2, h3⟩ := h
  refine cw_f (Or.inl ⟨by omega, by omega, ?_⟩)
  rw [h1, h2, h3, Int.toNat_natCast]
  exact ⟨rfl, hl, fun k hk => hw k (by rw [Int.toNat_natCast] at hk; exact hk)⟩
theorem exN_t {T : Nat → Int} {n p b a lo hi v : Int} (h : TKN T n p 2 b a) (hv : toG T n p = v) (hr : lo ≤ v ∧ v ≤ hi) : exN T n lo hi p = .ok (v, a) := by
  rw [exN_y h.1 (by rw [hv]; exact hr), hv, h.2.2]
theorem exS_t {T : Nat → Int} {n p b a x : Int} (h : TKN T n p 3 b a) (hx : T b.toNat = x) : exS T n x p = .ok (b, a) := by
  rw [exS_y ⟨h.1, by rw [h.2.1]; exact hx⟩, h.2.1, h.2.2]
theorem tk_0 : TKN tx20 87 0 1 0 5 := by unfold TKN; decide +kernel
theorem tk_5 : TKN tx20 87 5 3 5 6 := by unfold TKN; decide +kernel
theorem tk_6 : TKN tx20 87 6 1 7 11 := by unfold TKN; decide +kernel
theorem tk_11 : TKN tx20 87 11 2 12 18 := by unfold TKN; decide +kernel
theorem tg_11 : toG tx20 87 11 = 120000 := by decide +kernel
theorem tk_18 : TKN tx20 87 18 2 19 22 := by unfold TKN; decide +kernel
theorem tg_18 : toG tx20 87 18 = 600 := by decide +kernel
theorem tk_22 : TKN tx20 87 22 2 23 25 := by unfold TKN; decide +kernel
theorem tg_22 : toG tx20 87 22 = 12 := by decide +kernel
theorem tk_25 : TKN tx20 87 25 3 25 26 := by unfold TKN; decide +kernel
theorem tk_26 : TKN tx20 87 26 1 27 31 := by unfold TKN; decide +kernel
theorem tk_31 : TKN tx20 87 31 2 32 37 := by unfold TKN; decide +kernel
theorem tg_31 : toG tx20 87 31 = 50000 := by decide +kernel
theorem tk_37 : TKN tx20 87 37 2 38 42 := by unfold TKN; decide +kernel
theorem tg_37 : toG tx20 87 37 = 1200 := by decide +kernel
theorem tk_42 : TKN tx20 87 42 2 43 44 := by unfold TKN; decide +kernel
theorem tg_42 : toG tx20 87 42 = 6 := by decide +kernel
theorem tk_44 : TKN tx20 87 44 3 44 45 := by unfold TKN; decide +kernel
theorem tk_45 : TKN tx20 87 45 1 46 50 := by unfold TKN; decide +kernel
theorem tk_50 : TKN tx20 87 50 2 51 54 := by unfold TKN; decide +kernel
theorem tg_50 : toG tx20 87 50 = 999 := by decide +kernel
theorem tk_54 : TKN tx20 87 54 2 55 56 := by unfold TKN; decide +kernel
theorem tg_54 : toG tx20 87 54 = 0 := by decide +kernel
theorem tk_56 : TKN tx20 87 56 2 57 58 := by unfold TKN; decide +kernel
theorem tg_56 : toG tx20 87 56 = 4 := by decide +kernel
theorem tk_58 : TKN tx20 87 58 3 58 59 := by unfold TKN; decide +kernel
theorem tk_59 : TKN tx20 87 59 1 60 63 := by unfold TKN; decide +kernel
theorem tk_63 : TKN tx20 87 63 3 63 64 := by unfold TKN; decide +kernel
theorem tk_64 : TKN tx20 87 64 1 65 70 := by unfold TKN; decide +kernel
theorem tk_70 : TKN tx20 87 70 2 71 72 := by unfold TKN; decide +kernel
theorem tg_70 : toG tx20 87 70 = 0 := by decide +kernel
theorem tk_72 : TKN tx20 87 72 2 73 78 := by unfold TKN; decide +kernel
theorem tg_72 : toG tx20 87 72 = 20000 := by decide +kernel
theorem tk_78 : TKN tx20 87 78 3 78 79 := by unfold TKN; decide +kernel
theorem tk_79 : TKN tx20 87 79 1 80 84 := by unfold TKN; decide +kernel
theorem tk_84 : TKN tx20 87 84 2 85 86 := by unfold TKN; decide +kernel
theorem tg_84 : toG tx20 87 84 = 1 := by decide +kernel
theorem tk_86 : TKN tx20 87 86 3 86 87 := by unfold TKN; decide +kernel
theorem tk_87 : TKN tx20 87 87 0 87 87 := by unfold TKN; decide +kernel
theorem exL_1 : exL tx20 87 = .ok (5, 6) := by
  have h := tk_0
  have hw : WD tx20 (toK tx20 87 0) (toB tx20 87 0) (toE tx20 87 0) 0 := by
    rw [h.1, h.2.1, h.2.2]
    exact ⟨rfl, by decide +kernel, fun k hk => by have hk : k < 5 := hk; exact (by decide +kernel : ∀ k : Nat, k < 5 → tx20 (0 + k) = (lo_tx 0).getD k 0) k hk⟩
  rw [exL_y hw, h.2.2]
  exact exS_t tk_5 (by decide +kernel)
theorem cw_6 : cw tx20 87 6 = 1 := cw_t 1 (by omega) tk_6 (by decide +kernel) (by decide +kernel)
theorem cw_26 : cw tx20 87 26 = 1 := cw_t 1 (by omega) tk_26 (by decide +kernel) (by decide +kernel)
theorem cw_45 : cw tx20 87 45 = 1 := cw_t 1 (by omega) tk_45 (by decide +kernel) (by decide +kernel)
theorem cw_59 : cw tx20 87 59 = 3 := cw_t 3 (by omega) tk_59 (by decide +kernel) (by decide +kernel)
theorem cw_64 : cw tx20 87 64 = 4 := cw_t 4 (by omega) tk_64 (by decide +kernel) (by decide +kernel)
theorem cw_79 : cw tx20 87 79 = 5 := cw_t 5 (by omega) tk_79 (by decide +kernel) (by decide +kernel)
theorem pr1_6 (w0 : Int) : prm tx20 87 1 w0 11 = .ok (120000, 600, 12, 0, 25, 26) := by
  rw [prm_1]
  refine bnd_t (exN_t (lo := 1) (hi := 9999999) tk_11 tg_11 (by omega)) ?_
  show Except.bind _ _ = _
  refine bnd_t (exN_t (lo := 0) (hi := 3000) tk_18 tg_18 (by omega)) ?_
  show Except.bind _ _ = _
  refine bnd_t (exN_t (lo := 1) (hi := 120) tk_22 tg_22 (by omega)) ?_
  show Except.bind _ _ = _
  refine bnd_t (exS_t (x := 59) tk_25 (by decide +kernel)) ?_
  rfl
theorem pr1_26 (w0 : Int) : prm tx20 87 1 w0 31 = .ok (50000, 1200, 6, 0, 44, 45) := by
  rw [prm_1]
  refine bnd_t (exN_t (lo := 1) (hi := 9999999) tk_31 tg_31 (by omega)) ?_
  show Except.bind _ _ = _
  refine bnd_t (exN_t (lo := 0) (hi := 3000) tk_37 tg_37 (by omega)) ?_
  show Except.bind _ _ = _
  refine bnd_t (exN_t (lo := 1) (hi := 120) tk_42 tg_42 (by omega)) ?_
  show Except.bind _ _ = _
  refine bnd_t (exS_t (x := 59) tk_44 (by decide +kernel)) ?_
  rfl
theorem pr1_45 (w0 : Int) : prm tx20 87 1 w0 50 = .ok (999, 0, 4, 0, 58, 59) := by
  rw [prm_1]
  refine bnd_t (exN_t (lo := 1) (hi := 9999999) tk_50 tg_50 (by omega)) ?_
  show Except.bind _ _ = _
  refine bnd_t (exN_t (lo := 0) (hi := 3000) tk_54 tg_54 (by omega)) ?_
  show Except.bind _ _ = _
  refine bnd_t (exN_t (lo := 1) (hi := 120) tk_56 tg_56 (by omega)) ?_
  show Except.bind _ _ = _
  refine bnd_t (exS_t (x := 59) tk_58 (by decide +kernel)) ?_
  rfl
theorem pr1_59 (w0 : Int) : prm tx20 87 3 w0 63 = .ok (0, 0, 0, 0, 63, 64) := by
  rw [prm_3]
  refine bnd_t (exS_t (x := 59) tk_63 (by decide +kernel)) ?_
  rfl
theorem pr1_64 : prm tx20 87 4 3 70 = .ok (0, 20000, 0, 0, 78, 79) := by
  rw [prm_4]
  refine bnd_t (exN_t (lo := 0) (hi := 2) tk_70 tg_70 (by omega)) ?_
  show Except.bind _ _ = _
  refine bnd_t (exN_t (lo := 1) (hi := 9999999) tk_72 tg_72 (by omega)) ?_
  show Except.bind _ _ = _
  have hn : ¬ WD tx20 (toK tx20 87 78) (toB tx20 87 78) (toE tx20 87 78) 9 := fun h => by have h1 := h.1; have h2 := tk_78.1; omega
  have hk : exK tx20 87 78 = .ok (0, 78, 79) := by
    unfold exK
    rw [if_neg hn, exS_t (x := 59) tk_78 (by decide +kernel)]
    rfl
  refine bnd_t hk ?_
  rfl
theorem pr1_79 : prm tx20 87 5 3 84 = .ok (1, 0, 0, 0, 86, 87) := by
  rw [prm_5]
  refine bnd_t (exN_t (lo := 0) (hi := 2) tk_84 tg_84 (by omega)) ?_
  show Except.bind _ _ = _
  refine bnd_t (exS_t (x := 59) tk_86 (by decide +kernel)) ?_
  rfl
noncomputable def Q1 : PT := plNew (0, fun _ _ => 0, 0, 0, fun _ => 0, fun _ => 0, fun _ => 0) 120000 600 12
noncomputable def Q2 : PT := plNew Q1 50000 1200 6
noncomputable def Q3 : PT := plNew Q2 999 0 4
noncomputable def Q4 : PT := plAll Q3 3
noncomputable def Q5 : PT := plRed Q4 0 20000 0
noncomputable def Q6 : PT := plL Q5 1 (defL (PL Q5 1))
theorem Pn_new (P : PT) (a r m : Int) : Pn (plNew P a r m) = Pn P + 1 := rfl
theorem Pn_red (P : PT) (i a kp : Int) : Pn (plRed P i a kp) = Pn P := rfl
theorem Pn_L (P : PT) (i : Nat) (f : Nat → Int) : Pn (plL P i f) = Pn P := rfl
theorem Q_n : Pn Q1 = 1 ∧ Pn Q2 = 2 ∧ Pn Q3 = 3 ∧ Pn Q4 = 3 ∧ Pn Q5 = 3 ∧ Pn Q6 = 3 := by
  have h1 : Pn Q1 = (0 : Int) + 1 := by unfold Q1; exact Pn_new _ _ _ _
  have h2 : Pn Q2 = Pn Q1 + 1 := by unfold Q2; exact Pn_new _ _ _ _
  have h3 : Pn Q3 = Pn Q2 + 1 := by unfold Q3; exact Pn_new _ _ _ _
  have h4 : Pn Q4 = Pn Q3 := by unfold Q4; exact plAll_n Q3 3
  have h5 : Pn Q5 = Pn Q4 := by unfold Q5; exact Pn_red _ _ _ _
  have h6 : Pn Q6 = Pn Q5 := by unfold Q6; exact Pn_L _ _ _
  omega
theorem lvl_1 : lvl 120000 600 0 12 ≤ 20000 := by rw [lvl_def]; decide +kernel
theorem lvl_2 : lvl 50000 1200 0 6 ≤ 20000 := by rw [lvl_def]; decide +kernel
/-- the three loans as they are opened -/
theorem Q3_0 : PL Q3 0 = newL 120000 600 12 := rfl
theorem Q3_1 : PL Q3 1 = newL 50000 1200 6 := rfl
theorem Q3_2 : PL Q3 2 = newL 999 0 4 := rfl
theorem plAll_ge (P : PT) (k j : Nat) (h : k ≤ j) : PL (plAll P k) j = PL P j := (plAll_8 P k j).1 h
theorem plAll_at {P : PT} {k : Nat} (h : 0 < PL P k 1) : PL (plAll P (k + 1)) k = payL (PL P k) := by
  have e := plAll_ge P k k (Nat.le_refl k)
  show PL (if 0 < PL (plAll P k) k 1 then plPay (plAll P k) k else plAll P k) k = _
  rw [if_pos (by rw [e]; exact h)]
  show uF (PL (plAll P k)) (k : Int).toNat (payL (PL (plAll P k) (k : Int).toNat)) k = _
  rw [Int.toNat_natCast, uF_s, e]
theorem plAll_st {P : PT} {k j : Nat} (h : j < k) : PL (plAll P (k + 1)) j = PL (plAll P k) j := by
  show PL (if 0 < PL (plAll P k) k 1 then plPay (plAll P k) k else plAll P k) j = _
  split
  · exact plPay_ne (by omega)
  · rfl
theorem Q4_0 : PL Q4 0 = payL (newL 120000 600 12) := by
  unfold Q4
  rw [plAll_st (by omega), plAll_st (by omega), plAll_at (by rw [Q3_0]; show (0:Int) < 120000; omega), Q3_0]
theorem Q4_1 : PL Q4 1 = payL (newL 50000 1200 6) := by
  unfold Q4
  rw [plAll_st (by omega), plAll_at (by rw [Q3_1]; show (0:Int) < 50000; omega), Q3_1]
theorem payn {a r m : Int} (hm : 2 ≤ m) (h : lvl a r 0 m < fW a r 0) : payL (newL a r m) 1 = fW a r 0 - lvl a r 0 m ∧ payL (newL a r m) 9 = 0 := by
  have e : dueL (newL a r m) = lvl a r 0 m := fD_i h (by show m ≠ 1; omega)
  refine ⟨?_, rfl⟩
  show fW a r 0 - dueL (newL a r m) = _
  rw [e]
theorem Q_fin : ∃ w, PW Q6 w ∧ ∀ f g h, RCH tx20 87 0 (scS tx20 87 f g h) (sFin w) := by
  have hP0 : PI (0, fun _ _ => 0, 0, 0, fun _ => 0, fun _ => 0, fun _ => 0) := ⟨by show (0:Int) ≤ 0 ∧ (0:Int) ≤ 6; omega, by show (0:Int) ≤ 0 ∧ (0:Int) < 20; omega, by show (0:Int) ≤ 0 ∧ (0:Int) ≤ 20; omega, fun i hi => absurd (show (i : Int) < 0 from hi) (by omega)⟩
  have p0 := PW_clr hP0
  obtain ⟨n1, n2, n3, n4, n5, n6⟩ := Q_n
  obtain ⟨w1, x1, p1⟩ := EX_new (y := (120000, 600, 12, 0, 25, 26)) p0 (by show (0:Int) < 6; omega) (by unfold PRG; dsimp only; omega)
  have p1 : PW Q1 w1 := p1
  obtain ⟨w2, x2, p2⟩ := EX_new (y := (50000, 1200, 6, 0, 44, 45)) p1 (by omega) (by unfold PRG; dsimp only; omega)
  have p2 : PW Q2 w2 := p2
  obtain ⟨w3, x3, p3⟩ := EX_new (y := (999, 0, 4, 0, 58, 59)) p2 (by omega) (by unfold PRG; dsimp only; omega)
  have p3 : PW Q3 w3 := p3
  obtain ⟨w4, x4, p4⟩ := EX_all (y := (0, 0, 0, 0, 63, 64)) p3
  rw [n3] at p4
  have p4 : PW Q4 w4 := p4
  have l1 := lvl_1
  have l2 := lvl_2
  have f1 : fW 120000 600 0 = 120600 := by decide +kernel
  have f2 : fW 50000 1200 0 = 50500 := by decide +kernel
  have a1 := payn (a := 120000) (r := 600) (m := 12) (by omega) (by omega)
  have a2 := payn (a := 50000) (r := 1200) (m := 6) (by omega) (by omega)
  have b1 : PL Q4 0 1 = fW 120000 600 0 - lvl 120000 600 0 12 := by rw [Q4_0]; exact a1.1
  have b2 : PL Q4 1 1 = fW 50000 1200 0 - lvl 50000 1200 0 6 := by rw [Q4_1]; exact a2.1
  have b3 : PL Q4 1 9 = 0 := by rw [Q4_1]; exact a2.2
  obtain ⟨w5, x5, p5⟩ := EX_chg (c := 4) (a := 0) (s := 20000) (kt := 0) (Q := Q5) (y := (0, 20000, 0, 0, 78, 79)) p4 (by omega) (by unfold PRG; dsimp only; omega) rfl (fun _ => rfl) (fun _ => rfl) ⟨by show 0 < PL Q4 0 1; omega, fun _ => by show 20000 ≤ PL Q4 0 1; omega, fun q => absurd q (by omega), fun q => absurd q (by omega)⟩ ⟨fun q => absurd q (by omega), fun _ => rfl, fun q => absurd q (by omega), fun q => absurd q (by omega), fun q => absurd q (by omega)⟩
  have c1 : PL Q5 1 = PL Q4 1 := by
    show uF (PL Q4) (0 : Int).toNat (redL (PL Q4 (0 : Int).toNat) 20000 0) 1 = PL Q4 1
    exact uF_n (by decide)
  have hL5 := p5.1.2.2.2 1 (by omega)
  have hf5 := fI_r (b := PL Q5 1 1) (r := PL Q5 1 2) (c := PL Q5 1 5) hL5.1.1 hL5.2.1.1 hL5.2.1.2 hL5.2.2.1.1 hL5.2.2.1.2
  have e5 : fW (PL Q5 1 1) (PL Q5 1 2) (PL Q5 1 5) = PL Q5 1 1 + fI (PL Q5 1 1) (PL Q5 1 2) (PL Q5 1 5) := rfl
  have c2 : PL Q5 1 1 = PL Q4 1 1 := by rw [c1]
  have c3 : PL Q5 1 9 = 0 := by rw [c1]; exact b3
  have l3 : 1 ≤ lvl 50000 1200 0 6 := (lvl_ok (by omega) (by omega) (by omega) (by omega) (by omega) (by omega) (by omega)).2.1
  obtain ⟨w6, x6, p6⟩ := EX_chg (c := 5) (a := 1) (s := 0) (kt := 0) (Q := Q6) (y := (1, 0, 0, 0, 86, 87)) p5 (by omega) (by unfold PRG; dsimp only; omega) rfl (fun q => absurd q (by omega)) (fun q => absurd q (by omega)) ⟨by show 0 < PL Q5 1 1; omega, fun q => absurd q (by omega), fun _ => ⟨by show PL Q5 1 9 < 6; omega, by show fW (PL Q5 1 1) (PL Q5 1 2) (PL Q5 1 5) ≤ 9999999; omega⟩, fun q => absurd q (by omega)⟩ ⟨fun q => absurd q (by omega), fun q => absurd q (by omega), fun _ => rfl, fun q => absurd q (by omega), fun q => absurd q (by omega)⟩
  refine ⟨w6, p6, fun f g h => ?_⟩
  rw [scS_o exL_1]
  have r0 : RCH tx20 87 0 (sRun 6 0 0 f g h (fun _ => 0)) (sRun 6 0 0 f g h (fun _ => 0)) := RCH.rf _
  have r1 := r0.sn frz_0 (stp_cmdY cw_6 (by omega) (by omega) (pr1_6 _) x1)
  have r1 : RCH tx20 87 0 (sRun 6 0 0 f g h (fun _ => 0)) (sRun 26 1 0 f g h w1) := r1
  have r2 := r1.sn frz_0 (stp_cmdY cw_26 (by omega) (by omega) (pr1_26 _) x2)
  have r2 : RCH tx20 87 0 (sRun 6 0 0 f g h (fun _ => 0)) (sRun 45 2 0 f g h w2) := r2
  have r3 := r2.sn frz_0 (stp_cmdY cw_45 (by omega) (by omega) (pr1_45 _) x3)
  have r3 : RCH tx20 87 0 (sRun 6 0 0 f g h (fun _ => 0)) (sRun 59 3 0 f g h w3) := r3
  have r4 := r3.sn frz_0 (stp_cmdY cw_59 (by omega) (by omega) (pr1_59 _) x4)
  have r4 : RCH tx20 87 0 (sRun 6 0 0 f g h (fun _ => 0)) (sRun 64 4 0 f g h w4) := r4
  have r5 := r4.sn frz_0 (stp_cmdY cw_64 (by omega) (by omega) ((by rw [PW_n p4, n4]; exact pr1_64)) x5)
  have r5 : RCH tx20 87 0 (sRun 6 0 0 f g h (fun _ => 0)) (sRun 79 5 0 f g h w5) := r5
  have r6 := r5.sn frz_0 (stp_cmdY cw_79 (by omega) (by omega) ((by rw [PW_n p5, n5]; exact pr1_79)) x6)
  have r6 : RCH tx20 87 0 (sRun 6 0 0 f g h (fun _ => 0)) (sRun 87 6 0 f g h w6) := r6
  exact r6.sn frz_0 (stp_fin tk_87.1 rfl)
/-- what the first script leaves -/
theorem first_P {P : PT} {ke ko : Int} {f g h : Nat → Int} (hs : SCO tx20 87 (scS tx20 87 f g h) ke ko P) : PI P ∧ Pn P = 3 ∧ PC 1 P := by
  obtain ⟨w, hw, hr⟩ := Q_fin
  obtain ⟨-, hp⟩ := SCO_fin hs (hr f g h)
  obtain ⟨n1, n2, n3, n4, n5, n6⟩ := Q_n
  have e : Pn P = 3 := by rw [← PW_n hp, PW_n hw]; exact n6
  refine ⟨hp.1, e, fun i hi => ?_⟩
  have hc : PC 1 Q6 := PC_def (PC_red (PC_all (n := 0) (PC_new (PC_new (PC_new (fun i hi => absurd (show (i : Int) < 0 from hi) (by omega)) (by show (0:Int) ≤ 0; omega) (by omega)) (by show (0:Int) ≤ 0 + 1; omega) (by omega)) (by show (0:Int) ≤ 0 + 1 + 1; omega) (by omega)) 3))
  have h1 := hc i (by omega)
  have e1 : PL P i 8 = WL w i 8 := PW_Li hp hi 8 (by omega)
  have e2 : PL Q6 i 8 = WL w i 8 := PW_Li hw (by omega) 8 (by omega)
  omega

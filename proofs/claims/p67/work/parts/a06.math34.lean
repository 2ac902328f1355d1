/-! what a command does to the class's plan -/
def PSB (c : Int) (L : Nat → Int) (s : Int) : Prop := 0 < L 1 ∧ (c = 4 → s ≤ L 1) ∧ (c = 5 → L 9 < 6 ∧ fW (L 1) (L 2) (L 5) ≤ 9999999) ∧ (c = 7 → L 3 + s ≤ 120)
def CHG (c : Int) (P : PT) (a s kt : Int) (Q : PT) : Prop := (c = 2 → Q = plPay P a) ∧ (c = 4 → Q = plRed P a s kt) ∧ (c = 5 → Q = plL P a.toNat (defL (PL P a.toNat))) ∧ (c = 6 → Q = plL P a.toNat (setL (PL P a.toNat) s (PL P a.toNat 3))) ∧ (c = 7 → Q = plL P a.toNat (setL (PL P a.toNat) (PL P a.toNat 2) (PL P a.toNat 3 + s)))
section EX
variable {P Q : PT} {w : Nat → Int} {c a s kt : Int} {y : PAR}
theorem exe_1 : exe 1 y w = if w 0 < 6 then some (wNew w y.1 y.2.1 y.2.2.1) else none := rfl
theorem exe_2 : exe 2 y w = if 0 < wOf w y.1 1 then some (wPay w y.1) else none := rfl
theorem exe_4 : exe 4 y w = if 0 < wOf w y.1 1 ∧ y.2.1 ≤ wOf w y.1 1 then some (wRed w y.1 y.2.1 y.2.2.2.1) else none := rfl
theorem exe_5 : exe 5 y w = if 0 < wOf w y.1 1 ∧ wOf w y.1 9 < 6 ∧ fW (wOf w y.1 1) (wOf w y.1 2) (wOf w y.1 5) ≤ 9999999 then some (wDef w y.1) else none := rfl
theorem exe_6 : exe 6 y w = if 0 < wOf w y.1 1 then some (wRate w y.1 y.2.1) else none := rfl
theorem exe_7 : exe 7 y w = if 0 < wOf w y.1 1 ∧ wOf w y.1 3 + y.2.1 ≤ 120 then some (wLong w y.1 y.2.1) else none := rfl
theorem EX_all (h : PW P w) : ∃ u, exe 3 y w = some u ∧ PW (plAll P (Pn P).toNat) u := by
  have h0 := h.1.1.1
  have q := (PW_all h (Pn P).toNat (by omega)).1
  rw [← PW_n h] at q ⊢
  exact ⟨_, rfl, q⟩
theorem EX_new (h : PW P w) (hn : Pn P < 6) (hy : PRG 1 (Pn P) y) : ∃ u, exe 1 y w = some u ∧ PW (plNew P y.1 y.2.1 y.2.2.1) u := by
  obtain ⟨h1, -⟩ := hy
  have h2 := h1 rfl
  have e := PW_n h
  rw [exe_1, if_pos (by omega)]
  exact ⟨_, rfl, PW_new h hn h2.1 h2.2.1 h2.2.2⟩
theorem EX_full (h : PW P w) (hn : Pn P = 6) : exe 1 y w = none := by
  have e := PW_n h
  rw [exe_1, if_neg (by omega)]
theorem EX_no (h : PW P w) (hc : c = 2 ∨ c = 4 ∨ c = 5 ∨ c = 6 ∨ c = 7) (hi : 0 ≤ y.1 ∧ y.1 < Pn P) (hs : c = 4 ∨ c = 7 → s = y.2.1) (hn : ¬ PSB c (PL P y.1.toNat) s) : exe c y w = none := by
  have e1 : PL P y.1.toNat 1 = wOf w y.1 1 := PW_L h hi.1 hi.2 1 (by omega)
  have e2 : PL P y.1.toNat 2 = wOf w y.1 2 := PW_L h hi.1 hi.2 2 (by omega)
  have e3 : PL P y.1.toNat 3 = wOf w y.1 3 := PW_L h hi.1 hi.2 3 (by omega)
  have e5 : PL P y.1.toNat 5 = wOf w y.1 5 := PW_L h hi.1 hi.2 5 (by omega)
  have e9 : PL P y.1.toNat 9 = wOf w y.1 9 := PW_L h hi.1 hi.2 9 (by omega)
  unfold PSB at hn
  rw [e1, e2, e3, e5, e9] at hn
  rcases hc with rfl | rfl | rfl | rfl | rfl
  · rw [exe_2, if_neg (fun q => hn ⟨q, fun h => by omega, fun h => by omega, fun h => by omega⟩)]
  · have := hs (by omega)
    rw [exe_4, if_neg (fun q => hn ⟨q.1, fun h => by omega, fun h => by omega, fun h => by omega⟩)]
  · rw [exe_5, if_neg (fun q => hn ⟨q.1, fun h => by omega, fun h => q.2, fun h => by omega⟩)]
  · rw [exe_6, if_neg (fun q => hn ⟨q, fun h => by omega, fun h => by omega, fun h => by omega⟩)]
  · have := hs (by omega)
    rw [exe_7, if_neg (fun q => hn ⟨q.1, fun h => by omega, fun h => by omega, fun h => by omega⟩)]
theorem EX_chg (h : PW P w) (hc : c = 2 ∨ c = 4 ∨ c = 5 ∨ c = 6 ∨ c = 7) (hy : PRG c (Pn P) y) (ha : a = y.1) (hs : c = 4 ∨ c = 6 ∨ c = 7 → s = y.2.1) (hk : c = 4 → kt = y.2.2.2.1) (hp : PSB c (PL P a.toNat) s) (q : CHG c P a s kt Q) : ∃ u, exe c y w = some u ∧ PW Q u := by
  subst ha
  obtain ⟨r1, r2, r4, r6, r7⟩ := hy
  have hi := r2 (by omega) (by omega)
  have h0 := hi.1
  have h1 : y.1 < Pn P := by omega
  have e1 : PL P y.1.toNat 1 = wOf w y.1 1 := PW_L h h0 h1 1 (by omega)
  have e2 : PL P y.1.toNat 2 = wOf w y.1 2 := PW_L h h0 h1 2 (by omega)
  have e3 : PL P y.1.toNat 3 = wOf w y.1 3 := PW_L h h0 h1 3 (by omega)
  have e5 : PL P y.1.toNat 5 = wOf w y.1 5 := PW_L h h0 h1 5 (by omega)
  have e9 : PL P y.1.toNat 9 = wOf w y.1 9 := PW_L h h0 h1 9 (by omega)
  obtain ⟨p1, p4, p5, p7⟩ := hp
  obtain ⟨q2, q4, q5, q6, q7⟩ := q
  rcases hc with rfl | rfl | rfl | rfl | rfl
  · rw [exe_2, if_pos (by omega), q2 rfl]
    exact ⟨_, rfl, PW_pay h h0 h1 p1⟩
  · have hs1 := hs (by omega)
    have hk1 := hk rfl
    have p := p4 rfl
    have r := r4 rfl
    rw [exe_4, if_pos (by omega), q4 rfl, hs1, hk1]
    exact ⟨_, rfl, PW_red h h0 h1 p1 (by omega) (by omega)⟩
  · have p := p5 rfl
    rw [exe_5, if_pos (by rw [← e1, ← e2, ← e5, ← e9]; exact ⟨p1, p⟩), q5 rfl]
    exact ⟨_, rfl, PW_def h h0 h1 p1 p.1 p.2⟩
  · have hs1 := hs (by omega)
    have r := r6 rfl
    rw [exe_6, if_pos (by omega), q6 rfl, hs1]
    exact ⟨_, rfl, PW_rate h h0 h1 p1 r⟩
  · have hs1 := hs (by omega)
    have r := r7 rfl
    have p := p7 rfl
    rw [exe_7, if_pos (by omega), q7 rfl, hs1]
    exact ⟨_, rfl, PW_long h h0 h1 p1 (by omega) (by omega)⟩
theorem EXF_chg {eo : Int} (h : PW P w) (hc : c = 2 ∨ c = 4 ∨ c = 5 ∨ c = 6 ∨ c = 7) (hy : PRG c (Pn P) y) (ha : a = y.1) (hs : c = 4 ∨ c = 6 ∨ c = 7 → s = y.2.1) (hk : c = 4 → kt = y.2.2.2.1) (hp : PSB c (PL P a.toNat) s) (q : CHG c P a s kt Q) : ∃ u, exe c y w = some u ∧ PW Q u ∧ (0:Int) = 0 ∧ eo = eo := by
  obtain ⟨u, u1, u2⟩ := EX_chg h hc hy ha hs hk hp q
  exact ⟨u, u1, u2, rfl, rfl⟩
theorem EXF_new {eo s1 s2 s3 : Int} (hc : c = 1) (h : PW P w) (hn : Pn P < 6) (hy : PRG c (Pn P) y) (g1 : s1 = y.1) (g2 : s2 = y.2.1) (g3 : s3 = y.2.2.1) : ∃ u, exe c y w = some u ∧ PW (plNew P s1 s2 s3) u ∧ (0:Int) = 0 ∧ eo = eo := by
  subst hc
  obtain ⟨u, u1, u2⟩ := EX_new h hn hy
  exact ⟨u, u1, by rw [g1, g2, g3]; exact u2, rfl, rfl⟩
theorem EXF_all {eo : Int} (hc : c = 3) (h : PW P w) : ∃ u, exe c y w = some u ∧ PW (plAll P (Pn P).toNat) u ∧ (0:Int) = 0 ∧ eo = eo := by
  subst hc
  obtain ⟨u, u1, u2⟩ := EX_all (y := y) h
  exact ⟨u, u1, u2, rfl, rfl⟩
theorem EXF_full (hc : c = 1) (h : PW P w) (hn : Pn P = 6) : exe c y w = none := by
  subst hc
  exact EX_full h hn
end EX

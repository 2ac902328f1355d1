/-! the reference's reading, by the functions of the text -/
def TR (T : Nat → Int) (n p a b k g : Int) : Prop := a = toE T n p ∧ b = toB T n p ∧ KR (toK T n p) (T (toB T n p).toNat) k ∧ (k = 2 → g = toG T n p)
theorem TR_sc {T : Nat → Int} {n p a b k g g0 : Int} (hb : b = spE pSp T n p) (h : SCN T n b g0 a k g) : TR T n p a b k g := by
  have e : b = toB T n p := hb
  rw [e] at h
  obtain ⟨h1, h2, h3⟩ := SCN_f h
  exact ⟨h1, e, h2, h3⟩
def NUR (T : Nat → Int) (n a b k g e o na nb nk ng ek eo lo hi r : Int) : Prop := (e = 0 ∧ (k = 2 ∧ lo ≤ g ∧ g ≤ hi) ∧ ek = 0 ∧ eo = o ∧ r = g ∧ nb = spE pSp T n a ∧ SCN T n nb g na nk ng) ∨ (e = 0 ∧ ((k ≠ 2 ∧ ek = 1) ∨ (k = 2 ∧ ¬ (lo ≤ g ∧ g ≤ hi) ∧ ek = 2)) ∧ eo = b ∧ r = 0 ∧ na = a ∧ nb = b ∧ nk = k ∧ ng = g) ∨ (e ≠ 0 ∧ ek = e ∧ eo = o ∧ r = 0 ∧ na = a ∧ nb = b ∧ nk = k ∧ ng = g)
def ENR (k b e o x ek eo z : Int) : Prop := (e ≠ 0 ∧ ek = e ∧ eo = o ∧ z = 0) ∨ (e = 0 ∧ k ≠ 1 ∧ ek = 1 ∧ eo = b ∧ z = 0) ∨ (e = 0 ∧ k = 1 ∧ x = 0 ∧ ek = 3 ∧ eo = b ∧ z = 0) ∨ (e = 0 ∧ k = 1 ∧ x = 1 ∧ ek = 0 ∧ eo = o ∧ z = 1)
/-- the command at p, executed: the row, where the semicolon ends, the error -/
def ONE (T : Nat → Int) (n c : Int) (w : Nat → Int) (p : Int) (u : Nat → Int) (na ek eo : Int) : Prop := (∃ y : PAR, prm T n c (w 0) p = .ok y ∧ ((exe c y w = some u ∧ ek = 0 ∧ na = y.2.2.2.2.2) ∨ (exe c y w = none ∧ u = w ∧ ek = 3 ∧ eo = y.2.2.2.2.1))) ∨ (prm T n c (w 0) p = .error (ek, eo) ∧ ek ≠ 0 ∧ u = w)
/-- what a command of the script leaves alone -/
def KPT (M N : Nat → Int) : Prop := ∀ k, k < 12 ∨ (17 < k ∧ k < 20) ∨ 25 < k → N k = M k
theorem KPT.rf (M : Nat → Int) : KPT M M := fun _ _ => rfl
theorem KPT.tr {M N K : Nat → Int} (h : KPT M N) (h2 : KPT N K) : KPT M K := fun k hk => (h2 k hk).trans (h k hk)
theorem KPT_u {M N : Nat → Int} {j : Nat} {v : Int} (hj : (11 < j ∧ j < 18) ∨ (19 < j ∧ j < 26)) (h : KPT M N) : KPT M (uI N j v) := fun k hk => (uI_n (by omega)).trans (h k hk)
theorem KPT_s {M N : Nat → Int} (h : sameW M N) : KPT M N := fun k hk => h k (by omega)
section ON
variable {T : Nat → Int} {n p a b k g o e na nb nk ng ek eo lo hi r x z c : Int} {w u v : Nat → Int}
theorem NUR_f (t : TR T n p a b k g) (q : NUR T n a b k g 0 o na nb nk ng ek eo lo hi r) : (exN T n lo hi p = .ok (r, a) ∧ ek = 0 ∧ eo = o ∧ TR T n a na nb nk ng) ∨ (exN T n lo hi p = .error (ek, eo) ∧ ek ≠ 0) := by
  obtain ⟨t1, t2, t3, t4⟩ := t
  have hk := KR_n _ _ t3
  rcases q with ⟨-, ⟨h1, h2⟩, h3, h4, h5, h6, h7⟩ | ⟨-, h1, h2, h3, -⟩ | ⟨h, -⟩
  · have e5 := t4 h1
    refine Or.inl ⟨?_, h3, h4, TR_sc h6 h7⟩
    rw [h5, e5, t1]
    exact exN_y (by omega) (by omega)
  · refine Or.inr ⟨?_, by omega⟩
    rcases h1 with ⟨c1, c2⟩ | ⟨c1, c2, c3⟩
    · rw [c2, h2, t2]
      exact exN_1 (by omega)
    · have e5 := t4 c1
      rw [c3, h2, t2]
      exact exN_2 (by omega) (by omega)
  · exact absurd rfl h
theorem NUR_e (he : e ≠ 0) (q : NUR T n a b k g e o na nb nk ng ek eo lo hi r) : ek = e ∧ eo = o := by
  rcases q with ⟨h, -⟩ | ⟨h, -⟩ | ⟨-, h1, h2, -⟩
  · exact absurd h he
  · exact absurd h he
  · exact ⟨h1, h2⟩
theorem END_f (t : TR T n p a b k g) (q : ENR k b 0 o x ek eo z) : (exS T n 59 p = .ok (b, a) ∧ ((x = 1 ∧ ek = 0 ∧ eo = o ∧ z = 1) ∨ (x = 0 ∧ ek = 3 ∧ eo = b ∧ z = 0))) ∨ (exS T n 59 p = .error (ek, eo) ∧ ek ≠ 0 ∧ z = 0) := by
  obtain ⟨t1, t2, t3, t4⟩ := t
  have hk := KR_n _ _ t3
  rcases q with ⟨h, -⟩ | ⟨-, h1, h2, h3, h4⟩ | ⟨-, h1, h2, h3, h4, h5⟩ | ⟨-, h1, h2, h3, h4, h5⟩
  · exact absurd rfl h
  · refine Or.inr ⟨?_, by omega, h4⟩
    rw [h2, h3, t2]
    exact exS_n (by omega)
  · refine Or.inl ⟨?_, Or.inr ⟨h2, h3, h4, h5⟩⟩
    rw [t1, t2]
    exact exS_y (by omega)
  · refine Or.inl ⟨?_, Or.inl ⟨h2, h3, h4, h5⟩⟩
    rw [t1, t2]
    exact exS_y (by omega)
theorem END_e (he : e ≠ 0) (q : ENR k b e o x ek eo z) : ek = e ∧ eo = o ∧ z = 0 := by
  rcases q with ⟨-, h⟩ | ⟨h, -⟩ | ⟨h, -⟩ | ⟨h, -⟩
  · exact h
  · exact absurd h he
  · exact absurd h he
  · exact absurd h he
/-- the last step: the semicolon, and whether the command can be executed -/
theorem ONE_z {y : PAR} {q : Int} (t : TR T n q a b k g) (h : ENR k b 0 o x ek eo z) (hy : exS T n 59 q = .ok (b, a) → prm T n c (w 0) p = .ok y ∧ y.2.2.2.2.1 = b ∧ y.2.2.2.2.2 = a) (hn : exS T n 59 q = .error (ek, eo) → prm T n c (w 0) p = .error (ek, eo))
    (hB : (x = 1 ∧ exe c y w = some v) ∨ (x = 0 ∧ exe c y w = none)) (hu : (z = 1 ∧ u = v) ∨ (z = 0 ∧ u = w)) : ONE T n c w p u a ek eo := by
  rcases END_f t h with ⟨h1, h2⟩ | ⟨h1, h2, h3⟩
  · obtain ⟨y1, y2, y3⟩ := hy h1
    refine Or.inl ⟨y, y1, ?_⟩
    rcases h2 with ⟨c1, c2, c3, c4⟩ | ⟨c1, c2, c3, c4⟩
    · refine Or.inl ⟨?_, c2, y3.symm⟩
      rcases hB with ⟨-, hB⟩ | ⟨hB, -⟩
      · rcases hu with ⟨-, hu⟩ | ⟨hu, -⟩
        · rw [hu]; exact hB
        · omega
      · omega
    · refine Or.inr ⟨?_, ?_, c2, by rw [c3, y2]⟩
      · rcases hB with ⟨hB, -⟩ | ⟨-, hB⟩
        · omega
        · exact hB
      · rcases hu with ⟨hu, -⟩ | ⟨-, hu⟩
        · omega
        · exact hu
  · refine Or.inr ⟨hn h1, h2, ?_⟩
    rcases hu with ⟨hu, -⟩ | ⟨-, hu⟩
    · omega
    · exact hu
theorem ONE_e (he : ek ≠ 0) (hp : prm T n c (w 0) p = .error (ek, eo)) (hz : z = 0) (hu : (z = 1 ∧ u = v) ∨ (z = 0 ∧ u = w)) : ONE T n c w p u na ek eo := by
  refine Or.inr ⟨hp, he, ?_⟩
  rcases hu with ⟨hu, -⟩ | ⟨-, hu⟩
  · omega
  · exact hu
theorem ONE_3 (t : TR T n p a b k g) (h : ENR k b 0 o 1 ek eo z) (hu : (z = 1 ∧ u = wAll w (w 0).toNat) ∨ (z = 0 ∧ u = w)) : ONE T n 3 w p u a ek eo :=
  ONE_z (y := (0, 0, 0, 0, b, a)) t h (fun q => ⟨by rw [prm_3, q]; rfl, rfl, rfl⟩) (fun q => by rw [prm_3, q]; rfl) (Or.inl ⟨rfl, exe_3⟩) hu
theorem ONE_25 {a1 b1 k1 g1 e1 o1 r1 : Int} (hc : c = 2 ∨ c = 5) (t : TR T n p a b k g) (h1 : NUR T n a b k g 0 o a1 b1 k1 g1 e1 o1 0 (w 0 - 1) r1) (h : ENR k1 b1 e1 o1 x ek eo z) (hB : e1 = 0 → (x = 1 ∧ exe c (r1, 0, 0, 0, b1, a1) w = some v) ∨ (x = 0 ∧ exe c (r1, 0, 0, 0, b1, a1) w = none)) (hu : (z = 1 ∧ u = v) ∨ (z = 0 ∧ u = w)) : ONE T n c w p u a1 ek eo := by
  have hp : prm T n c (w 0) p = ((exN T n 0 (w 0 - 1) p).bind fun a => (exS T n 59 a.2).bind fun e => .ok (a.1, 0, 0, 0, e.1, e.2)) := by rcases hc with rfl | rfl <;> rfl
  rcases NUR_f t h1 with ⟨r, r2, r3, r4⟩ | ⟨r, r2⟩
  · subst r2
    rw [r] at hp
    exact ONE_z r4 h (fun q => ⟨by rw [hp]; show (exS T n 59 a).bind _ = _; rw [q]; rfl, rfl, rfl⟩) (fun q => by rw [hp]; show (exS T n 59 a).bind _ = _; rw [q]; rfl) (hB rfl) hu
  · obtain ⟨rfl, rfl, hz⟩ := END_e r2 h
    rw [r] at hp
    exact ONE_e r2 hp hz hu
theorem ONE_67 {a1 b1 k1 g1 e1 o1 r1 a2 b2 k2 g2 e2 o2 r2 : Int} (hc : (c = 6 ∧ lo = 0 ∧ hi = 3000) ∨ (c = 7 ∧ lo = 1 ∧ hi = 60)) (t : TR T n p a b k g) (h1 : NUR T n a b k g 0 o a1 b1 k1 g1 e1 o1 0 (w 0 - 1) r1) (h2 : NUR T n a1 b1 k1 g1 e1 o1 a2 b2 k2 g2 e2 o2 lo hi r2) (h : ENR k2 b2 e2 o2 x ek eo z) (hB : e2 = 0 → (x = 1 ∧ exe c (r1, r2, 0, 0, b2, a2) w = some v) ∨ (x = 0 ∧ exe c (r1, r2, 0, 0, b2, a2) w = none)) (hu : (z = 1 ∧ u = v) ∨ (z = 0 ∧ u = w)) : ONE T n c w p u a2 ek eo := by
  have hp : prm T n c (w 0) p = ((exN T n 0 (w 0 - 1) p).bind fun a => (exN T n lo hi a.2).bind fun b => (exS T n 59 b.2).bind fun e => .ok (a.1, b.1, 0, 0, e.1, e.2)) := by rcases hc with ⟨rfl, rfl, rfl⟩ | ⟨rfl, rfl, rfl⟩ <;> rfl
  rcases NUR_f t h1 with ⟨r, s2, s3, s4⟩ | ⟨r, s2⟩
  · subst s2
    rw [r] at hp
    have hp : prm T n c (w 0) p = ((exN T n lo hi a).bind fun b => (exS T n 59 b.2).bind fun e => .ok (r1, b.1, 0, 0, e.1, e.2)) := hp
    rcases NUR_f s4 h2 with ⟨q, q2, q3, q4⟩ | ⟨q, q2⟩
    · subst q2
      rw [q] at hp
      exact ONE_z q4 h (fun q => ⟨by rw [hp]; show (exS T n 59 a1).bind _ = _; rw [q]; rfl, rfl, rfl⟩) (fun q => by rw [hp]; show (exS T n 59 a1).bind _ = _; rw [q]; rfl) (hB rfl) hu
    · obtain ⟨rfl, rfl, hz⟩ := END_e q2 h
      rw [q] at hp
      exact ONE_e q2 hp hz hu
  · obtain ⟨rfl, rfl⟩ := NUR_e s2 h2
    obtain ⟨rfl, rfl, hz⟩ := END_e s2 h
    rw [r] at hp
    exact ONE_e s2 hp hz hu
theorem ONE_1 {a1 b1 k1 g1 e1 o1 r1 a2 b2 k2 g2 e2 o2 r2 a3 b3 k3 g3 e3 o3 r3 : Int} (t : TR T n p a b k g) (h1 : NUR T n a b k g 0 o a1 b1 k1 g1 e1 o1 1 9999999 r1) (h2 : NUR T n a1 b1 k1 g1 e1 o1 a2 b2 k2 g2 e2 o2 0 3000 r2) (h3 : NUR T n a2 b2 k2 g2 e2 o2 a3 b3 k3 g3 e3 o3 1 120 r3) (h : ENR k3 b3 e3 o3 x ek eo z) (hB : (x = 1 ∧ w 0 < 6) ∨ (x = 0 ∧ ¬ w 0 < 6)) (hu : (z = 1 ∧ u = wNew w r1 r2 r3) ∨ (z = 0 ∧ u = w)) : ONE T n 1 w p u a3 ek eo := by
  have hp : prm T n 1 (w 0) p = _ := prm_1
  have hB2 : (x = 1 ∧ exe 1 (r1, r2, r3, 0, b3, a3) w = some (wNew w r1 r2 r3)) ∨ (x = 0 ∧ exe 1 (r1, r2, r3, 0, b3, a3) w = none) := by
    rcases hB with ⟨h, h2⟩ | ⟨h, h2⟩
    · exact Or.inl ⟨h, exe_1.trans (if_pos h2)⟩
    · exact Or.inr ⟨h, exe_1.trans (if_neg h2)⟩
  rcases NUR_f t h1 with ⟨r, s2, s3, s4⟩ | ⟨r, s2⟩
  · subst s2
    rw [r] at hp
    have hp : prm T n 1 (w 0) p = ((exN T n 0 3000 a).bind fun b => (exN T n 1 120 b.2).bind fun d => (exS T n 59 d.2).bind fun e => .ok (r1, b.1, d.1, 0, e.1, e.2)) := hp
    rcases NUR_f s4 h2 with ⟨q, q2, q3, q4⟩ | ⟨q, q2⟩
    · subst q2
      rw [q] at hp
      have hp : prm T n 1 (w 0) p = ((exN T n 1 120 a1).bind fun d => (exS T n 59 d.2).bind fun e => .ok (r1, r2, d.1, 0, e.1, e.2)) := hp
      rcases NUR_f q4 h3 with ⟨j, j2, j3, j4⟩ | ⟨j, j2⟩
      · subst j2
        rw [j] at hp
        exact ONE_z j4 h (fun q => ⟨by rw [hp]; show (exS T n 59 a2).bind _ = _; rw [q]; rfl, rfl, rfl⟩) (fun q => by rw [hp]; show (exS T n 59 a2).bind _ = _; rw [q]; rfl) hB2 hu
      · obtain ⟨rfl, rfl, hz⟩ := END_e j2 h
        rw [j] at hp
        exact ONE_e j2 hp hz hu
    · obtain ⟨rfl, rfl⟩ := NUR_e q2 h3
      obtain ⟨rfl, rfl, hz⟩ := END_e q2 h
      rw [q] at hp
      exact ONE_e q2 hp hz hu
  · obtain ⟨rfl, rfl⟩ := NUR_e s2 h2
    obtain ⟨rfl, rfl⟩ := NUR_e s2 h3
    obtain ⟨rfl, rfl, hz⟩ := END_e s2 h
    rw [r] at hp
    exact ONE_e s2 hp hz hu
/-- an extra payment: 'keep' stands there, or not -/
theorem ONE_4 {a1 b1 k1 g1 e1 o1 r1 a2 b2 k2 g2 e2 o2 r2 a3 b3 k3 g3 kq : Int} (t : TR T n p a b k g) (h1 : NUR T n a b k g 0 o a1 b1 k1 g1 e1 o1 0 (w 0 - 1) r1) (h2 : NUR T n a1 b1 k1 g1 e1 o1 a2 b2 k2 g2 e2 o2 1 9999999 r2)
    (hk : (kq = 1 ∧ (e2 = 0 ∧ k2 = 3 ∧ isW T b2 a2 (lo_tx 19)) ∧ b3 = spE pSp T n a2 ∧ SCN T n b3 g2 a3 k3 g3) ∨ (kq = 0 ∧ ¬ (e2 = 0 ∧ k2 = 3 ∧ isW T b2 a2 (lo_tx 19)) ∧ a3 = a2 ∧ b3 = b2 ∧ k3 = k2 ∧ g3 = g2))
    (h : ENR k3 b3 e2 o2 x ek eo z) (hB : e2 = 0 → (x = 1 ∧ exe 4 (r1, r2, 0, kq, b3, a3) w = some v) ∨ (x = 0 ∧ exe 4 (r1, r2, 0, kq, b3, a3) w = none)) (hu : (z = 1 ∧ u = v) ∨ (z = 0 ∧ u = w)) : ONE T n 4 w p u a3 ek eo := by
  have hp : prm T n 4 (w 0) p = _ := prm_4
  rcases NUR_f t h1 with ⟨r, s2, s3, s4⟩ | ⟨r, s2⟩
  · subst s2
    rw [r] at hp
    have hp : prm T n 4 (w 0) p = ((exN T n 1 9999999 a).bind fun b => (exK T n b.2).bind fun e => .ok (r1, b.1, 0, e.1, e.2.1, e.2.2)) := hp
    rcases NUR_f s4 h2 with ⟨q, q2, q3, q4⟩ | ⟨q, q2⟩
    · subst q2
      rw [q] at hp
      have hp : prm T n 4 (w 0) p = ((exK T n a1).bind fun e => .ok (r1, r2, 0, e.1, e.2.1, e.2.2)) := hp
      obtain ⟨u1, u2, u3, u4⟩ := id q4
      have hkn := KR_n _ _ u3
      rcases hk with ⟨d1, ⟨-, d2, d3⟩, d4, d5⟩ | ⟨d1, d2, rfl, rfl, rfl, rfl⟩
      · have hW : WD T (toK T n a1) (toB T n a1) (toE T n a1) 9 := ⟨by omega, by rw [← u1, ← u2]; exact d3⟩
        have hK : exK T n a1 = (exS T n 59 (toE T n a1)).bind (fun e => .ok (1, e.1, e.2)) := if_pos hW
        rw [hK, ← u1] at hp
        subst d1
        exact ONE_z (TR_sc d4 d5) h (fun q => ⟨by rw [hp, q]; rfl, rfl, rfl⟩) (fun q => by rw [hp, q]; rfl) (hB rfl) hu
      · have hW : ¬ WD T (toK T n a1) (toB T n a1) (toE T n a1) 9 := fun q => d2 ⟨rfl, by have := q.1; omega, by rw [u1, u2]; exact q.2⟩
        have hK : exK T n a1 = (exS T n 59 a1).bind (fun e => .ok (0, e.1, e.2)) := if_neg hW
        rw [hK] at hp
        subst d1
        exact ONE_z q4 h (fun q => ⟨by rw [hp, q]; rfl, rfl, rfl⟩) (fun q => by rw [hp, q]; rfl) (hB rfl) hu
    · have e3 := (END_e q2 h)
      obtain ⟨rfl, rfl, hz⟩ := e3
      rw [q] at hp
      exact ONE_e q2 hp hz hu
  · obtain ⟨rfl, rfl⟩ := NUR_e s2 h2
    obtain ⟨rfl, rfl, hz⟩ := END_e s2 h
    rw [r] at hp
    exact ONE_e s2 hp hz hu
end ON

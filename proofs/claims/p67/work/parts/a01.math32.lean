/-! the class's reading, by the functions of the text -/
theorem SCA_f {T : Nat → Int} {n a b k g na nb nk ng : Int} (h : SCA T n a b k g na nb nk ng 0) : nb = toB T n a ∧ na = toE T n a ∧ nk = toK T n a ∧ (nk = 2 → ng = toG T n a) := by
  rcases h with ⟨h1, -⟩ | ⟨-, h2, h3⟩
  · exact absurd rfl h1
  · have e : nb = toB T n a := h2
    rw [e] at h3
    exact ⟨e, SCK_f h3⟩
theorem NUMS_f {T : Nat → Int} {n a b k g o na nb nk ng ne no lo hi z : Int} (h : NUMS T n a b k g 0 o na nb nk ng ne no lo hi z) : (exN T n lo hi a = .ok (z, na) ∧ ne = 0 ∧ no = o) ∨ (exN T n lo hi a = .error (ne, no) ∧ ne ≠ 0) := by
  obtain ⟨e1, e2, e3, e4⟩ := SCA_f h.1
  rcases h.2 with ⟨h1, -⟩ | ⟨-, h2, ⟨h3, h4, h5, h6⟩ | ⟨h3, h4, h5, h6⟩ | ⟨h3, h5, h6⟩⟩
  · exact absurd rfl h1
  · have e5 := e4 h3
    refine Or.inl ⟨?_, h5, h6⟩
    rw [h2, e5, e2]
    exact exN_y (by omega) (by omega)
  · have e5 := e4 h3
    refine Or.inr ⟨?_, by omega⟩
    rw [h5, h6, e1]
    exact exN_2 (by omega) (by omega)
  · refine Or.inr ⟨?_, by omega⟩
    rw [h5, h6, e1]
    exact exN_1 (by omega)
theorem NUMS_e {T : Nat → Int} {n a b k g e o na nb nk ng ne no lo hi z : Int} (he : e ≠ 0) (h : NUMS T n a b k g e o na nb nk ng ne no lo hi z) : ne = e ∧ no = o := by
  rcases h.2 with ⟨-, h1, h2, -⟩ | ⟨h1, -⟩
  · exact ⟨h1, h2⟩
  · exact absurd h1 he
theorem SIGS_f {T : Nat → Int} {n a b k g o na nb nk ng ne no x : Int} (h : SIGS T n a b k g 0 o na nb nk ng ne no x) : (exS T n x a = .ok (nb, na) ∧ ne = 0 ∧ no = o) ∨ (exS T n x a = .error (ne, no) ∧ ne ≠ 0) := by
  obtain ⟨e1, e2, e3, e4⟩ := SCA_f h.1
  rcases h.2 with ⟨h1, -⟩ | ⟨-, h2, h5, h6⟩ | ⟨-, h2, h5, h6⟩
  · exact absurd rfl h1
  · refine Or.inl ⟨?_, h5, h6⟩
    rw [e1, e2]
    exact exS_y ⟨by omega, by rw [← e1]; exact h2.2.2⟩
  · refine Or.inr ⟨?_, by omega⟩
    rw [h5, h6, e1]
    refine exS_n (fun q => h2 ⟨by omega, ?_, by rw [e1]; exact q.2⟩)
    by_cases c : nb < n
    · exact c
    · have := (te_0 (T := T) (n := n) (p := a) (by omega)).2
      omega
theorem SIGS_e {T : Nat → Int} {n a b k g e o na nb nk ng ne no x : Int} (he : e ≠ 0) (h : SIGS T n a b k g e o na nb nk ng ne no x) : ne = e ∧ no = o := by
  rcases h.2 with ⟨-, h1, h2⟩ | ⟨h1, -⟩ | ⟨h1, -⟩
  · exact ⟨h1, h2⟩
  · exact absurd h1 he
  · exact absurd h1 he
theorem KEPS_f {T : Nat → Int} {n a b k g o q na nb nk ng ne no nq : Int} (h : KEPS T n a b k g 0 o q na nb nk ng ne no nq) : (exK T n a = .ok (nq, nb, na) ∧ ne = 0 ∧ no = o) ∨ (exK T n a = .error (ne, no) ∧ ne ≠ 0) := by
  rcases h with ⟨h1, -⟩ | ⟨-, a1, b1, k1, g1, hs, h⟩
  · exact absurd rfl h1
  obtain ⟨e1, e2, e3, e4⟩ := SCA_f hs
  unfold exK
  rcases h with ⟨h1, h2, h3⟩ | ⟨h1, h2, h3, h4, h5, h6, h7⟩
  · rw [e3, e1, e2] at h1
    rw [if_pos h1]
    rw [e2] at h3
    rcases SIGS_f h3 with ⟨r, r2⟩ | ⟨r, r2⟩
    · refine Or.inl ⟨?_, r2⟩
      rw [r, h2]; rfl
    · refine Or.inr ⟨?_, r2⟩
      rw [r]; rfl
  · rw [e3, e1, e2] at h1
    rw [if_neg h1]
    rcases h7 with ⟨r, r2, r3⟩ | ⟨r, r2, r3⟩
    · refine Or.inl ⟨?_, r2, r3⟩
      rw [exS_y (T := T) (n := n) (x := 59) (p := a) ⟨by omega, by rw [← e1, ← h4]; exact r.2.2⟩, h2, h3, h4, e1, e2]
      rfl
    · refine Or.inr ⟨?_, by omega⟩
      rw [exS_n (T := T) (n := n) (x := 59) (p := a) (fun q => r ⟨by omega, ?_, by rw [h4, e1]; exact q.2⟩), r2, r3, h4, e1]
      · rfl
      · by_cases c : nb < n
        · exact c
        · have := (te_0 (T := T) (n := n) (p := a) (by omega)).2
          omega
theorem KEPS_e {T : Nat → Int} {n a b k g e o q na nb nk ng ne no nq : Int} (he : e ≠ 0) (h : KEPS T n a b k g e o q na nb nk ng ne no nq) : ne = e ∧ no = o := by
  rcases h with ⟨-, -, -, -, -, -, h1, h2⟩ | ⟨h1, -⟩
  · exact ⟨h1, h2⟩
  · exact absurd h1 he
/-- the class has read command c's numbers -/
def RDN (T : Nat → Int) (n c w0 p z1 z2 z3 kq nb na ke ko eo : Int) : Prop := (∃ y : PAR, prm T n c w0 p = .ok y ∧ (c ≠ 3 → z1 = y.1) ∧ (c = 1 ∨ c = 4 ∨ c = 6 ∨ c = 7 → z2 = y.2.1) ∧ (c = 1 → z3 = y.2.2.1) ∧ (c = 4 → kq = y.2.2.2.1) ∧ nb = y.2.2.2.2.1 ∧ na = y.2.2.2.2.2 ∧ ke = 0 ∧ ko = eo) ∨ (prm T n c w0 p = .error (ke, ko) ∧ ke ≠ 0)
section RD
variable {T : Nat → Int} {n w0 p ts tk tv eo na nb nk ng ke ko z1 z2 z3 kq s1 s2 s3 kt : Int}
theorem RDN_3 (h : SIGS T n p ts tk tv 0 eo na nb nk ng ke ko 59) : RDN T n 3 w0 p s1 s2 s3 kt nb na ke ko eo := by
  unfold RDN
  rw [prm_3]
  rcases SIGS_f h with ⟨r, r2, r3⟩ | ⟨r, r2⟩
  · rw [r]
    exact Or.inl ⟨_, rfl, fun h => absurd rfl h, fun h => by omega, fun h => by omega, fun h => by omega, rfl, rfl, r2, r3⟩
  · rw [r]
    exact Or.inr ⟨rfl, r2⟩
theorem RDN_25 {c a1 b1 k1 g1 e1 o1 : Int} (hc : c = 2 ∨ c = 5) (h1 : NUMS T n p ts tk tv 0 eo a1 b1 k1 g1 e1 o1 0 (w0 - 1) z1) (h : SIGS T n a1 b1 k1 g1 e1 o1 na nb nk ng ke ko 59) : RDN T n c w0 p z1 s2 s3 kt nb na ke ko eo := by
  have hp : prm T n c w0 p = ((exN T n 0 (w0 - 1) p).bind fun a => (exS T n 59 a.2).bind fun e => .ok (a.1, 0, 0, 0, e.1, e.2)) := by rcases hc with rfl | rfl <;> rfl
  unfold RDN
  rw [hp]
  rcases NUMS_f h1 with ⟨r, r2, r3⟩ | ⟨r, r2⟩
  · rw [r]
    subst r2
    rcases SIGS_f h with ⟨q, q2, q3⟩ | ⟨q, q2⟩
    · refine Or.inl ⟨(z1, 0, 0, 0, nb, na), ?_, fun _ => rfl, fun h => by omega, fun h => by omega, fun h => by omega, rfl, rfl, q2, q3.trans r3⟩
      show (exS T n 59 a1).bind _ = _
      rw [q]; rfl
    · refine Or.inr ⟨?_, q2⟩
      show (exS T n 59 a1).bind _ = _
      rw [q]; rfl
  · obtain ⟨rfl, rfl⟩ := SIGS_e r2 h
    rw [r]
    exact Or.inr ⟨rfl, r2⟩
theorem RDN_67 {c lo hi a1 b1 k1 g1 e1 o1 a2 b2 k2 g2 e2 o2 : Int} (hc : (c = 6 ∧ lo = 0 ∧ hi = 3000) ∨ (c = 7 ∧ lo = 1 ∧ hi = 60)) (h1 : NUMS T n p ts tk tv 0 eo a1 b1 k1 g1 e1 o1 0 (w0 - 1) z1) (h2 : NUMS T n a1 b1 k1 g1 e1 o1 a2 b2 k2 g2 e2 o2 lo hi z2) (h : SIGS T n a2 b2 k2 g2 e2 o2 na nb nk ng ke ko 59) : RDN T n c w0 p z1 z2 s3 kt nb na ke ko eo := by
  have hp : prm T n c w0 p = ((exN T n 0 (w0 - 1) p).bind fun a => (exN T n lo hi a.2).bind fun b => (exS T n 59 b.2).bind fun e => .ok (a.1, b.1, 0, 0, e.1, e.2)) := by rcases hc with ⟨rfl, rfl, rfl⟩ | ⟨rfl, rfl, rfl⟩ <;> rfl
  unfold RDN
  rw [hp]
  rcases NUMS_f h1 with ⟨r, r2, r3⟩ | ⟨r, r2⟩
  · rw [r]
    subst r2
    rcases NUMS_f h2 with ⟨t, t2, t3⟩ | ⟨t, t2⟩
    · subst t2
      rcases SIGS_f h with ⟨q, q2, q3⟩ | ⟨q, q2⟩
      · refine Or.inl ⟨(z1, z2, 0, 0, nb, na), ?_, fun _ => rfl, fun _ => rfl, fun h => by omega, fun h => by omega, rfl, rfl, q2, q3.trans (t3.trans r3)⟩
        show (exN T n lo hi a1).bind _ = _
        rw [t]
        show (exS T n 59 a2).bind _ = _
        rw [q]; rfl
      · refine Or.inr ⟨?_, q2⟩
        show (exN T n lo hi a1).bind _ = _
        rw [t]
        show (exS T n 59 a2).bind _ = _
        rw [q]; rfl
    · obtain ⟨rfl, rfl⟩ := SIGS_e t2 h
      refine Or.inr ⟨?_, t2⟩
      show (exN T n lo hi a1).bind _ = _
      rw [t]; rfl
  · obtain ⟨rfl, rfl⟩ := NUMS_e r2 h2
    obtain ⟨rfl, rfl⟩ := SIGS_e r2 h
    rw [r]
    exact Or.inr ⟨rfl, r2⟩
theorem RDN_1 {a1 b1 k1 g1 e1 o1 a2 b2 k2 g2 e2 o2 a3 b3 k3 g3 e3 o3 : Int} (h1 : NUMS T n p ts tk tv 0 eo a1 b1 k1 g1 e1 o1 1 9999999 z1) (h2 : NUMS T n a1 b1 k1 g1 e1 o1 a2 b2 k2 g2 e2 o2 0 3000 z2) (h3 : NUMS T n a2 b2 k2 g2 e2 o2 a3 b3 k3 g3 e3 o3 1 120 z3) (h : SIGS T n a3 b3 k3 g3 e3 o3 na nb nk ng ke ko 59) : RDN T n 1 w0 p z1 z2 z3 kt nb na ke ko eo := by
  unfold RDN
  rw [prm_1]
  rcases NUMS_f h1 with ⟨r, r2, r3⟩ | ⟨r, r2⟩
  · rw [r]
    subst r2
    rcases NUMS_f h2 with ⟨t, t2, t3⟩ | ⟨t, t2⟩
    · subst t2
      rcases NUMS_f h3 with ⟨u, u2, u3⟩ | ⟨u, u2⟩
      · subst u2
        rcases SIGS_f h with ⟨q, q2, q3⟩ | ⟨q, q2⟩
        · refine Or.inl ⟨(z1, z2, z3, 0, nb, na), ?_, fun _ => rfl, fun _ => rfl, fun _ => rfl, fun h => by omega, rfl, rfl, q2, q3.trans (u3.trans (t3.trans r3))⟩
          show (exN T n 0 3000 a1).bind _ = _
          rw [t]
          show (exN T n 1 120 a2).bind _ = _
          rw [u]
          show (exS T n 59 a3).bind _ = _
          rw [q]; rfl
        · refine Or.inr ⟨?_, q2⟩
          show (exN T n 0 3000 a1).bind _ = _
          rw [t]
          show (exN T n 1 120 a2).bind _ = _
          rw [u]
          show (exS T n 59 a3).bind _ = _
          rw [q]; rfl
      · obtain ⟨rfl, rfl⟩ := SIGS_e u2 h
        refine Or.inr ⟨?_, u2⟩
        show (exN T n 0 3000 a1).bind _ = _
        rw [t]
        show (exN T n 1 120 a2).bind _ = _
        rw [u]; rfl
    · obtain ⟨rfl, rfl⟩ := NUMS_e t2 h3
      obtain ⟨rfl, rfl⟩ := SIGS_e t2 h
      refine Or.inr ⟨?_, t2⟩
      show (exN T n 0 3000 a1).bind _ = _
      rw [t]; rfl
  · obtain ⟨rfl, rfl⟩ := NUMS_e r2 h2
    obtain ⟨rfl, rfl⟩ := NUMS_e r2 h3
    obtain ⟨rfl, rfl⟩ := SIGS_e r2 h
    rw [r]
    exact Or.inr ⟨rfl, r2⟩
theorem RDN_4 {a1 b1 k1 g1 e1 o1 a2 b2 k2 g2 e2 o2 : Int} (h1 : NUMS T n p ts tk tv 0 eo a1 b1 k1 g1 e1 o1 0 (w0 - 1) z1) (h2 : NUMS T n a1 b1 k1 g1 e1 o1 a2 b2 k2 g2 e2 o2 1 9999999 z2) (h : KEPS T n a2 b2 k2 g2 e2 o2 kt na nb nk ng ke ko kq) : RDN T n 4 w0 p z1 z2 s3 kq nb na ke ko eo := by
  unfold RDN
  rw [prm_4]
  rcases NUMS_f h1 with ⟨r, r2, r3⟩ | ⟨r, r2⟩
  · rw [r]
    subst r2
    rcases NUMS_f h2 with ⟨t, t2, t3⟩ | ⟨t, t2⟩
    · subst t2
      rcases KEPS_f h with ⟨q, q2, q3⟩ | ⟨q, q2⟩
      · refine Or.inl ⟨(z1, z2, 0, kq, nb, na), ?_, fun _ => rfl, fun _ => rfl, fun h => by omega, fun _ => rfl, rfl, rfl, q2, q3.trans (t3.trans r3)⟩
        show (exN T n 1 9999999 a1).bind _ = _
        rw [t]
        show (exK T n a2).bind _ = _
        rw [q]; rfl
      · refine Or.inr ⟨?_, q2⟩
        show (exN T n 1 9999999 a1).bind _ = _
        rw [t]
        show (exK T n a2).bind _ = _
        rw [q]; rfl
    · obtain ⟨rfl, rfl⟩ := KEPS_e t2 h
      refine Or.inr ⟨?_, t2⟩
      show (exN T n 1 9999999 a1).bind _ = _
      rw [t]; rfl
  · obtain ⟨rfl, rfl⟩ := NUMS_e r2 h2
    obtain ⟨rfl, rfl⟩ := KEPS_e r2 h
    rw [r]
    exact Or.inr ⟨rfl, r2⟩
end RD

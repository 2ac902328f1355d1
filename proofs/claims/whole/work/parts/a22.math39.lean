/-! the reference's script as a whole -/
section SR
variable {T : Nat → Int} {n : Int}
theorem SRL {a b k g e1 o1 na nb nk ng ek eo z : Int} (t : TR T n 0 a b k g) (hw : (e1 = 0 ∧ (k = 3 ∧ isW T b a (lo_tx 10))) ∨ (e1 = 1 ∧ o1 = b ∧ ¬ (k = 3 ∧ isW T b a (lo_tx 10)))) (q : (e1 = 0 ∧ nb = spE pSp T n a ∧ SCN T n nb g na nk ng) ∨ (e1 ≠ 0 ∧ na = a ∧ nb = b ∧ nk = k ∧ ng = g)) (r : ENR nk nb e1 o1 1 ek eo z) : (ek = 0 ∧ z = 1 ∧ exL T n = .ok (nb, na)) ∨ (ek ≠ 0 ∧ z = 0 ∧ exL T n = .error (ek, eo)) := by
  obtain ⟨t1, t2, t3, t4⟩ := id t
  have hk := KR_n _ _ t3
  rcases hw with ⟨c1, c2, c3⟩ | ⟨c1, c2, c3⟩
  · subst c1
    have hW : WD T (toK T n 0) (toB T n 0) (toE T n 0) 0 := ⟨by omega, by rw [← t1, ← t2]; exact c3⟩
    rw [exL_y hW, ← t1]
    rcases END_f (ADV_f rfl q) r with ⟨r1, ⟨r2, r3, r4, r5⟩ | ⟨r2, -⟩⟩ | ⟨r1, r2, r3⟩
    · exact Or.inl ⟨r3, r5, r1⟩
    · exact absurd r2 (by omega)
    · exact Or.inr ⟨r2, r3, r1⟩
  · have hW : ¬ WD T (toK T n 0) (toB T n 0) (toE T n 0) 0 := fun h => c3 ⟨by have := h.1; omega, by rw [t1, t2]; exact h.2⟩
    obtain ⟨rfl, rfl, hz⟩ := END_e (by omega) r
    rw [exL_n hW, c1, c2, t2]
    exact Or.inr ⟨by omega, hz, rfl⟩
def SRR (T : Nat → Int) (n q x : Int) (v : Nat → Int) (ek eo : Int) : Prop := ∀ f g h, (ek = 0 → ∃ f2 g2 h2, RCH T n 0 (scS T n f g h) (sRun q x 0 f2 g2 h2 v)) ∧ (ek ≠ 0 → RCH T n 0 (scS T n f g h) (sBad ek eo))
variable {q x ek eo z : Int} {u v w : Nat → Int}
theorem SRR_0 {nb na : Int} (h : (ek = 0 ∧ z = 1 ∧ exL T n = .ok (nb, na)) ∨ (ek ≠ 0 ∧ z = 0 ∧ exL T n = .error (ek, eo))) (hv : (z = 1 ∧ v = fun _ => 0) ∨ (z = 0 ∧ v = w)) : SRR T n na 0 v ek eo := by
  intro f g h2
  rcases h with ⟨h, h1, h3⟩ | ⟨h, h1, h3⟩
  · refine ⟨fun _ => ⟨f, g, h2, ?_⟩, fun c => absurd h c⟩
    rcases hv with ⟨-, hv⟩ | ⟨hv, -⟩
    · rw [scS_o h3, hv]; exact RCH.rf _
    · omega
  · refine ⟨fun c => absurd c h, fun _ => ?_⟩
    rw [scS_e h3]; exact RCH.rf _
theorem SRR_tr {q2 x2 e2 o2 : Int} (h : SRR T n q x v e2 o2) (he : e2 = 0) (b : BDY T n 0 q x v q2 x2 u ek eo) : SRR T n q2 x2 u ek eo := by
  intro f g h2
  obtain ⟨f2, g2, h3, k⟩ := (h f g h2).1 he
  rcases b with ⟨b0, -, -, -, b4⟩ | ⟨b0, b1⟩
  · obtain ⟨f3, g3, h4, -, d2⟩ := b4 f2 g2 h3
    exact ⟨fun _ => ⟨f3, g3, h4, k.tr d2⟩, fun c => absurd b0 c⟩
  · exact ⟨fun c => absurd c b0, fun _ => k.tr (b1 f2 g2 h3)⟩
theorem SRR_fin {a b k g : Int} (h : SRR T n q x v ek eo) (he : ek = 0) (t : TR T n q a b k g) (hk : k = 0) : ∀ f g h, RCH T n 0 (scS T n f g h) (sFin v) := by
  intro f g h2
  obtain ⟨f2, g2, h3, k⟩ := (h f g h2).1 he
  exact k.sn frz_0 (stp_fin ((KR_n _ _ t.2.2.1).1.1 hk) rfl)
theorem SRR_bad (h : SRR T n q x v ek eo) (he : ek ≠ 0) : ∀ f g h, RCH T n 0 (scS T n f g h) (sBad ek eo) := fun f g h2 => (h f g h2).2 he
theorem WI_0 : WI (fun _ => 0) := ⟨by show (0:Int) ≤ 0 ∧ (0:Int) ≤ 6; omega, by show (0:Int) ≤ 0 ∧ (0:Int) ≤ 20; omega, fun i h0 hi => absurd (show i < 0 from hi) (by omega)⟩
/-- what the reference's script has come to -/
def SRO (T : Nat → Int) (n : Int) (ek eo : Int) (u : Nat → Int) : Prop := (ek = 0 ∧ ∀ f g h, RCH T n 0 (scS T n f g h) (sFin u)) ∨ (ek ≠ 0 ∧ ∀ f g h, RCH T n 0 (scS T n f g h) (sBad ek eo))
/-- both have come to the same -/
theorem SCO_SRO {f g h : Nat → Int} {e1 o1 e2 o2 : Int} {P : PT} (a : SCO T n (scS T n f g h) e1 o1 P) (b : SRO T n e2 o2 u) : e1 = e2 ∧ ((e1 = 0 ∧ PW P u) ∨ (e1 ≠ 0 ∧ o1 = o2 ∧ PI P)) := by
  rcases a with ⟨a0, w, a1, a2⟩ | ⟨a0, a1, a2⟩
  · rcases b with ⟨b0, b1⟩ | ⟨b0, b1⟩
    · have e := a2.det trivial (b1 f g h) trivial
      have e2 : w = u := Sum.inl.inj (Sum.inr.inj e)
      exact ⟨by omega, Or.inl ⟨a0, e2 ▸ a1⟩⟩
    · have e := a2.det trivial (b1 f g h) trivial
      exact absurd (Sum.inr.inj e) (by intro h; cases h)
  · rcases b with ⟨b0, b1⟩ | ⟨b0, b1⟩
    · have e := a2.det trivial (b1 f g h) trivial
      exact absurd (Sum.inr.inj e) (by intro h; cases h)
    · have e := a2.det trivial (b1 f g h) trivial
      have e2 := Prod.mk.inj (Sum.inr.inj (Sum.inr.inj e))
      exact ⟨e2.1, Or.inr ⟨a0, e2.2, a1⟩⟩
end SR

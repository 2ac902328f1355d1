theorem SR_k {L K K2 : Nat → Int} {r A m : Int} (h : SR L K r A m) (e1 : K2 12 = K 12) (e2 : K2 13 = K 13) : SR L K2 r A m := ⟨h.1, e1.trans h.2.1, fun ho => ⟨e2.trans (h.2.2 ho).1, (h.2.2 ho).2⟩⟩
theorem sch_pos {L : Nat → Int} (h : 0 < L 1) : 1 ≤ schN 12 0 L := by
  have e : schL 12 0 L = pmL (dueL L) (fI (L 1) (L 2) (L 5)) (payL L 1 ≤ 0) ++ schL 11 (0 + 1) (payL L) := by
    rw [show (12 : Nat) = 11 + 1 from rfl, schL_s h, if_neg (by omega)]
    rfl
  have h1 := dgs_len (dueL L)
  have h2 := dgN_r (dueL L)
  unfold schN
  rw [e, List.length_append]
  unfold pmL
  rw [List.length_append]
  omega
/-- the end of the reference's schedule -/
theorem sch_fin {B C : Nat → Int} {q ix : Int} {k : Nat} {L U : Nat → Int} (h0 : U 1 ≤ 0 ∨ k = 0) (h4 : wrL C q (schL k ix U) = wrL B 0 (schL 12 0 L)) (h5 : q + schN k ix U = schN 12 0 L) : (q ≠ 0 → q = repN L ∧ C = wrL B 0 (repL L)) ∧ (q = 0 → q + 1 = repN L ∧ uI C q.toNat 45 = wrL B 0 (repL L)) := by
  have hsx := sch_e (B := C) (q := q) (ix := ix) (k := k) (L := U) h0
  rw [hsx.1] at h4
  rw [hsx.2, Int.add_zero] at h5
  by_cases ho : 0 < L 1
  · have hry := rep_y ho
    have hp := sch_pos ho
    refine ⟨fun _ => ⟨by rw [hry.2]; exact h5, by rw [hry.1]; exact h4⟩, fun h => by omega⟩
  · have hrn := rep_n (L := L) (by omega)
    have hse := sch_e (B := B) (q := 0) (ix := 0) (k := 12) (L := L) (Or.inl (by omega))
    rw [hse.1] at h4
    rw [hse.2] at h5
    refine ⟨fun h => absurd h5 h, fun h => ⟨by rw [hrn.2]; omega, by rw [hrn.1, h4, h]; rfl⟩⟩

/-! eight rows at once -/
theorem vr_all {f : Nat → va_E} {L : List Nat} {v : va_E} : va_pl L (vr_up f L v) = L.map (fun a => (a, v)) := by
  unfold va_pl
  apply List.map_congr_left
  intro a ha
  rw [vr_up_in ha]
section LOM
variable {p : Program} {l : Launch} {e : Env} {R : Room} {s : State} {m : MethodId} {args : Array Value} {below : List Frame} {meth : Method} {c : Code} {H : Heap} {locs : List Loc} {cells slots : Nat} {Q : State → Prop}
variable {cc : ByteArray} {pc nL : Nat} {ls : Array Slot} {rest st0 : List Value} {Ts : List Cond} {own : String} {X : KX} {ws : va_W} {A : Nat → Prop} {H0 : Heap}
theorem lo_mna (E : CallFix p m c cc nL s args Ts own) (hK : lo_K X s) (hw : lo_Wd X ws A H0 H locs) {index : Nat} (hcl : (Cond.classLink own index "[[I").before args s = true) (hover : va_AOA .int s) (harr : (Cond.arrayClass .int).before args s = true) (hcells : cells + (1 + 8) ≤ R.cells) (hslots : slots + (8 + 8 * 122) ≤ R.slots) (hdg : decode cc pc = .ok (.multianewarray index 2, 4))
    (kk : ∀ (q : Nat) (r : Nat → Nat) (H1 : Heap), lo_Wd X (ws ++ ([arA X q 8 (rq r id)] ++ rwW X r (fun _ _ => 0))) A H0 H1 locs → W p l e R s m args below meth c H1 locs (cells + 1 + 8) (slots + 8 + 8 * 122) Q (F0 m (pc + 4) ls (.ref q :: rest))) : W p l e R s m args below meth c H locs cells slots Q (F0 m pc ls (.int (iI 122) :: .int (iI 8) :: rest)) := by
  have hI : s.vm.findClass (FieldType.array .int).toString = some X.cI := (hK.2 1 (X.cI, .int) rfl).2
  refine va_mna (X := ws) (L := []) (f := fun _ => .inr (0, [])) (ty := .int) (cy := X.cI) (N' := 8) (K' := 122) (z := (122, .inl (aI (fun _ => 0)))) E.1 E.2.1 E.2.2.2.1 hcl hover harr hI hK (by show va_P X.1 vwCl (ws ++ []) H; rw [List.append_nil]; exact hw.1) (by show va_D A (ws ++ []); rw [List.append_nil]; exact hw.2.1) hw.2.2.1 hw.2.2.2 (by decide) (by decide) (by decide) (by decide) (by decide) (by decide) (by decide) rfl rfl hcells hslots (fun c => by show ({ cls := c, slots := Array.replicate 122 _, vm := .none } : Cell) = _; rw [arrV_new]; rfl) hdg ?_
  intro q r cA H1 hr1 hr2 hK1 h1 h2 h3
  have e1 : s.vm.findClass ("[" ++ (FieldType.array .int).toString) = some cA := (hK1.2 5 (cA, .array .int) rfl).2
  have e2 : s.vm.findClass ("[" ++ (FieldType.array .int).toString) = some X.cA := (hK.2 4 (X.cA, .array .int) rfl).2
  have e3 : cA = X.cA := Option.some.inj (e1.symm.trans e2)
  subst e3
  rw [List.nil_append, vr_all, List.append_assoc] at h1 h2
  have hw2 : lo_Wd X (ws ++ ([arZ q X.cA 8 (fun i => if i < 8 then some (r i) else none)] ++ rwW X r (fun _ _ => 0))) A H0 H1 locs := ⟨h1, h2, h3, hw.2.2.2⟩
  refine kk q r H1 (lo_Wd_extQ (q0 := ws.length) (a := q) (n := 8) (c := X.cA) (f := fun i => if i < 8 then some (r i) else none) (g := fun j => some (rq r id j)) hw2 ?_ (fun j hj => if_pos hj) ?_)
  · rw [List.getElem?_append_right (Nat.le_refl _), Nat.sub_self]; rfl
  · rw [List.set_append_right _ _ (Nat.le_refl _), Nat.sub_self]; rfl
end LOM

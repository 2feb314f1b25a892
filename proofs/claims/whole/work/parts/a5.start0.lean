/-! the law's start: what the tables say, as the walk takes it along -/
theorem st_K {args : Array Value} {s : State} (hw : ∀ w ∈ go_T, w.before args s = true) (hAO : (Cond.arrayOver (.object cx_RF)).before args s = true) : ∃ (D : va_G) (ca : Nat → ClassId), va_K D vwCl (cx_ty ca) s := by
  obtain ⟨c0, i0, k0⟩ := u_known hw cl_ca.2.1 (hw _ tw_1_126)
  obtain ⟨c1, i1, k1⟩ := u_known hw cl_di.2.1 (hw _ tw_1_132)
  obtain ⟨c2, i2, k2⟩ := u_known hw cl_fr.2.1 (hw _ tw_1_35)
  obtain ⟨c3, i3, k3⟩ := u_known hw cl_gr.2.1 (hw _ tw_1_104)
  obtain ⟨c4, i4, k4⟩ := u_known hw cl_ma.2.1 (hw _ tw_1_120)
  obtain ⟨c5, i5, k5⟩ := u_known hw cl_wh.2.1 (hw _ tw_1_41)
  obtain ⟨c6, i6, k6⟩ := u_known hw cl_wr.2.1 (hw _ tw_1_86)
  obtain ⟨c7, i7, k7⟩ := u_known hw cl_pn.2.1 (hw _ tw_1_27)
  obtain ⟨c8, i8, k8⟩ := u_known hw cl_mo.2.1 (hw _ tw_4_72)
  obtain ⟨a0, q0, p0, f0, g0, e0⟩ := Cond.arrayClass_spec (hw _ tw_1_59)
  obtain ⟨a1, q1, p1, f1, g1, e1⟩ := Cond.arrayClass_spec (hw _ tw_5_101)
  obtain ⟨a2, q2, p2, f2, g2, e2⟩ := Cond.arrayClass_spec (hw _ tw_1_58)
  obtain ⟨p3, a3, q3, h3, -, g3, e3, f3⟩ := Cond.arrayOver_spec hAO
  refine ⟨(fun c => match c with | 0 => c0 | 1 => c1 | 2 => c2 | 3 => c3 | 4 => c4 | 5 => c5 | 6 => c6 | 7 => c7 | _ => c8, fun c => match c with | 0 => i0 | 1 => i1 | 2 => i2 | 3 => i3 | 4 => i4 | 5 => i5 | 6 => i6 | 7 => i7 | _ => i8), fun t => match t with | 0 => a0 | 1 => a1 | 2 => a2 | _ => a3, fun c q hq => ?_, fun t q hq => ?_⟩
  · match c, hq with
    | 0, hq => cases hq; exact k0
    | 1, hq => cases hq; exact k1
    | 2, hq => cases hq; exact k2
    | 3, hq => cases hq; exact k3
    | 4, hq => cases hq; exact k4
    | 5, hq => cases hq; exact k5
    | 6, hq => cases hq; exact k6
    | 7, hq => cases hq; exact k7
    | 8, hq => cases hq; exact k8
    | c + 9, hq => cases hq
  · match t, hq with
    | 0, hq => cases hq; exact ⟨fun N z => ⟨(fun k h => by cases h), q0, g0, p0, e0⟩, f0⟩
    | 1, hq => cases hq; exact ⟨fun N z => ⟨(fun k h => by cases h), q1, g1, p1, e1⟩, f1⟩
    | 2, hq => cases hq; exact ⟨fun N z => ⟨(fun k h => by cases h), q2, g2, p2, e2⟩, f2⟩
    | 3, hq => cases hq; exact ⟨fun N z => ⟨(fun k h => by cases h), q3, g3, p3, e3⟩, q3, p3, g3, e3, h3, f3⟩
    | t + 4, hq => cases hq

section JNEST
variable {sc : Option (Nat × (Nat → Int))} {d : Nat} {mi : jI} {pc : Nat} {L L' st : List jV} {M : jM} {X : jX}
theorem J_callVNi {cl : jI} {host : String} {n k ci idx dc : Nat} {z : Int} {fs : List (Option Nat)} {q : vw_C} {Qc : Int → jM → Prop} (As rest : List jV) (hd : decode mi.2.1 pc = .ok (.invokevirtual idx, 3)) (hl : (mi.1.cls, idx, cl.1, host) ∈ j_nst) (hc : j_CV cl n) (hn : As.length = n) (hst : st = As.reverse ++ (k + 10, z) :: rest) (hsh : j_sh[k]? = some (0, ci, fs)) (hcl : vwCl[ci]? = some q) (hq : q.1 = cl.1.cls) (hdc : dc < d) (hw : j_wt rest ≤ 8) (hrk : j_rk cl.2.2.2 = 1) (ev : Ev dc cl ((k + 10, z) :: As) M Qc) (kk : ∀ (z : Int) (M' : jM), Qc z M' → J sc d mi (pc + 3) L ((0, z) :: rest) M' X) : J sc d mi pc L st M X := by
  intro p l e R s m args below meth c cells slots Q E A F hsc hX H locs ls hH hL
  have hM := ev l E H.size
  have e0 : j_Qc cl.2.2.2 E Qc (va_A (j_w E M) H.size) = va_Qi (fun r M => ∃ z, r = Int32.ofInt z ∧ Qc z M) (j_B E (va_A (j_w E M) H.size)) (va_A (j_w E M) H.size) := by
    unfold j_Qc
    simp only [hrk]
  rw [e0] at hM
  have hFc := j_free F.2.2.2.2.2.2.1 hH
  have hcn : va_CN R s args mi.1.cls idx cl.1 host cl.2.1 cl.2.2.1 cl.2.2.2 (j_ws cl) (j_rm dc) 0 0 n := by
    obtain ⟨h1, h2, h3, h4⟩ := hc.1
    have hnst := F.2.2.2.2.2.2.2.2.2.2.2.2.2.2.2.2.2 _ hl
    obtain ⟨f1, f2, f3, f4, f5, f6, f7, f8, f9, f10⟩ := F
    refine va_cnB (Ts := j_all) n f5 ?_ rfl rfl rfl hnst (f5 _ h2) h3 ⟨?_, ?_⟩
    · intro w hw
      rcases List.mem_cons.mp hw with hw | hw
      · subst hw
        exact ⟨h1, j_all_good h1⟩
      · exact ⟨hw, j_all_good hw⟩
    · show dc + 1 ≤ R.frames
      omega
    · show 8 + (cl.2.2.1 + 11) + 40 * dc ≤ R.locals
      omega
  refine va_calli (va_runVN (As := As.map (j_cv E)) (rest := rest.map (j_cv E)) (b := E.2.1 k) ⟨F.1, F.2.1, F.2.2.1, F.2.2.2.1, F.2.2.2.2.1⟩ hM ⟨hcn, F.2.2.2.2.1 _ hc.2.1, F.2.2.2.2.1 _ hc.2.2⟩ ⟨j_blind, by rw [← hq]; exact va_recv F.2.2.2.2.2.1 hH.1 hcl (j_w_at hsh), fun U hU hW => ⟨rfl, j_pre_of F.2.2.2.2.2.1 F.2.2.2.2.2.2.2.2.2.2.2 F.2.2.2.2.2.2.1 hH U hU hW⟩⟩ rfl (by rw [List.length_map]; exact hn) hL.1 (by show List.map (j_cv E) st = _; rw [hst, List.map_append, List.map_reverse]; rfl) (lv_room (by rw [j_wt_eq]; exact hw)) hd ⟨by have := F.2.2.2.2.2.2.2.2.2.1; omega, by have := F.2.2.2.2.2.2.2.2.2.2.1; omega⟩) hH.2.2 (fun q _ h => hFc q h) hFc (fun r u t H1 locs1 ht hvm hpost hB hz1 hk1 hS1 => ?_)
  obtain ⟨hP1, hK1, hD1⟩ := hB
  rw [ht] at hP1
  have hD1 := hD1.weaken (fun _ q _ h => hFc q.1 h)
  obtain ⟨z1, hz, hq1⟩ := hpost
  subst hz
  exact kk z1 u hq1 p l e R s m args below meth c cells slots Q E A F hsc hX H1 locs1 ls ⟨hP1, hD1, hS1⟩ hL
end JNEST
theorem nst0 : (RX6, 277, yX4_falls, "ShellPeel") ∈ j_nst := List.mem_cons_self
theorem nst1 : (RX6, 284, yX4_leastPoint, "ShellPeel") ∈ j_nst := List.mem_cons_of_mem _ List.mem_cons_self

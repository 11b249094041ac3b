/-! every call of the abstract machine is met by the machine -/
set_option maxHeartbeats 4000000 in
theorem x_sim (l : Launch) (D : xD) (lo : Nat) : ∀ d : Nat, xMet l D lo d
  | 0 => fun y A h P _ _ _ z => False.elim z
  | d + 1 => fun y A h P hy hA hlen z => by
    have ih := x_sim l D lo d
    obtain ⟨mc, ms, z⟩ := (xC_eq d y A h P).mp z
    have hlv : ∃ r h', h'.2.2.2.1 = h.2.2.2.1 + mc ∧ h'.2.2.2.2 = h.2.2.2.2 + ms ∧ P r h' := by
      obtain ⟨r, h', q, -⟩ := xw_live (xCd_live d) z
      exact ⟨r, h', q⟩
    refine ⟨by omega, mc, ms, ?_, hlv⟩
    show Met l (xM y).1 (xws y) (xrm d mc ms) (xPc D lo h A) (xQc D lo (fun r h' => h'.2.2.2.1 = h.2.2.2.1 + mc ∧ h'.2.2.2.2 = h.2.2.2.2 + ms ∧ P r h')) mc ms (fun q => lo ≤ q)
    obtain ⟨⟨wc, wi⟩, wst, winst, wsel, wnm, hcls, hn1, hn2, hpl, hdesc, h13⟩ := xfacts hy
    refine Met.ofW (cc := (xM y).2.1) (maxL := (xM y).2.2.1) (ret := (xM y).2.2.2.1) (ws' := xWT) hpl rfl ?_
    intro p e s m args below meth c s₁ B hml hv
    obtain ⟨rfl, hrep, hKn⟩ := hv
    have hx := B.exec
    have hb := B.bytes
    have hr := B.returns
    have hlocks := B.notSynchronized
    have hts0 := atoms_spec (ws := xws y) B.pre
    have hts : ∀ w ∈ xWT, w.before A.toArray s = true := fun w hw => hts0 w (List.mem_cons_of_mem _ hw)
    have hown : s.vm.findClass (xR (xM y).2.2.2.2.1) = some m.cls := by rw [← hcls]; exact findClass_of_methodNamed B.named
    have hin : decide ((xM y).2.2.2.2.2.1 = 1) = true → meth.name = "<init>" := fun q => by
      rw [decide_eq_true_eq] at q
      rw [(name_of_methodNamed B.named B.method).1]
      exact (wnm q).1
    have hBody : xBody p s m A.toArray meth c (headSpec (xws y) (xrm d mc ms)).room D d (xM y).2.2.2.2.1 (xM y).2.1 (xM y).2.2.1 (decide ((xM y).2.2.2.2.2.1 = 1)) := ⟨hx, hb, hml, hown, hts, hKn, hin, Nat.le_refl d, Nat.le_refl _⟩
    have hbd : ∀ pc ls st h1, xw (xCd d) d (xM y).2.2.2.2.1 (xM y).2.1 (xM y).2.2.2.1 (decide ((xM y).2.2.2.2.2.1 = 1)) (fun r h' => h'.2.2.2.1 = h.2.2.2.1 + mc ∧ h'.2.2.2.2 = h.2.2.2.2 + ms ∧ P r h') pc ls st h1 → h1.2.2.2.1 ≤ h.2.2.2.1 + mc ∧ h1.2.2.2.2 ≤ h.2.2.2.2 + ms := fun pc ls st h1 q => by
      obtain ⟨r, h', q1, q2, q3⟩ := xw_live (xCd_live d) q
      exact ⟨by rw [← q1.1]; exact q2, by rw [← q1.2.1]; exact q3⟩
    have key := z (fun pc ls st h1 => xw (xCd d) d (xM y).2.2.2.2.1 (xM y).2.1 (xM y).2.2.2.1 (decide ((xM y).2.2.2.2.2.1 = 1)) (fun r h' => h'.2.2.2.1 = h.2.2.2.1 + mc ∧ h'.2.2.2.2 = h.2.2.2.2 + ms ∧ P r h') pc ls st h1 ∧ xSim p l e (headSpec (xws y) (xrm d mc ms)).room s m A.toArray below meth c (MQ below (xQc D lo (fun r h' => h'.2.2.2.1 = h.2.2.2.1 + mc ∧ h'.2.2.2.2 = h.2.2.2.2 + ms ∧ P r h')) A.toArray s mc ms (fun q => lo ≤ q)) D lo (xM y).2.2.1 h.2.2.2.1 h.2.2.2.2 pc ls st h1) (fun pc ls st h1 q => by
      refine ⟨x_fold (xstp_mono (fun _ _ z => z) (fun _ _ _ _ z => z.1) (xCd_mono d) q), ?_⟩
      unfold xstp at q
      cases hd : decode (xM y).2.1 pc with
      | error e => rw [hd] at q; exact False.elim q
      | ok r =>
        rw [hd] at q
        obtain ⟨i, len⟩ := r
        refine xins_sim hBody ih (Nat.le_refl mc) (Nat.le_refl ms) hbd ?_ ?_ hd q
        · intro pc la v h2 H locs hdg hv hQ hrep hF hL hn0 hs0
          refine W.cs (cells' := mc) (slots' := ms) (by have := hQ.1; omega) (by have := hQ.2.1; omega) ?_
          have hq : ∀ t : State, t.heap = H → s.WarmedH t.vm → xQc D lo (fun r h' => h'.2.2.2.1 = h.2.2.2.1 + mc ∧ h'.2.2.2.2 = h.2.2.2.2 + ms ∧ P r h') A.toArray s (.returned (some (.int v))) t := fun t ht _ => ⟨⟨_, h2, rfl, by rw [ht]; exact hrep, hQ, fun w hw => by cases hw; rfl⟩, fun q hq => by rw [ht]; exact hF q hq⟩
          rcases hv with hv | ⟨hv, hv2⟩
          · exact W.iret hx hb (by rw [hr]; exact hv) hq hL hdg
          · exact W.zret hx hb (by rw [hr]; exact hv) (by rcases hv2 with rfl | rfl <;> rfl) hq hL hdg
        · intro pc la h2 H locs hdg hv hQ hrep hF hL hn0 hs0
          refine W.cs (cells' := mc) (slots' := ms) (by have := hQ.1; omega) (by have := hQ.2.1; omega) ?_
          exact W.vret hx hb (by rw [hr]; exact hv) (fun t ht _ => ⟨⟨_, h2, rfl, by rw [ht]; exact hrep, hQ, fun w hw => by cases hw⟩, fun q hq => by rw [ht]; exact hF q hq⟩) hL hdg)
    rw [lg_entry_eq]
    have := key.2 s.heap [] _ hrep (xlv_entry A hA hlen) (fun _ h => by cases h) (fun _ _ => rfl) (fun _ h => by cases h) (Nat.le_refl _) (Nat.le_refl _)
    rw [Nat.sub_self, Nat.sub_self] at this
    exact this

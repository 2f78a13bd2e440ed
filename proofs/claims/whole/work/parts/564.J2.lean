theorem J_rev {d : Dg} (hs : ∀ c, c < d.1 → d.2.2.2 c = 1 ∨ d.2.2.2 c = -1) (h : Jd d) (lo up : Nat → Bool) (φ : Int → Bool) (hφ : ∀ q, q < 4 * d.1 → φ (d.2.2.1 q) = if q % 2 = 0 then lo (q / 4) else up (q / 4)) : Jd (revD lo up d) := by
  intro w hw
  have f0 : ∀ c, c < d.1 → φ (d.2.2.1 (4 * c)) = lo c ∧ φ (d.2.2.1 (4 * c + 1)) = up c ∧ φ (d.2.2.1 (4 * c + 2)) = lo c ∧ φ (d.2.2.1 (4 * c + 3)) = up c := fun c hc => by
    refine ⟨?_, ?_, ?_, ?_⟩
    · rw [hφ _ (by omega), if_pos (by omega)]; congr 1; omega
    · rw [hφ _ (by omega), if_neg (by omega)]; congr 1; omega
    · rw [hφ _ (by omega), if_pos (by omega)]; congr 1; omega
    · rw [hφ _ (by omega), if_neg (by omega)]; congr 1; omega
  have rl : ∀ c, c < d.1 → lo c = true → (revD lo up d).2.2.1 (4 * c) = d.2.2.1 (4 * c + 2) ∧ (revD lo up d).2.2.1 (4 * c + 1) = d.2.2.1 (4 * c + 3) ∧ (revD lo up d).2.2.1 (4 * c + 2) = d.2.2.1 (4 * c) ∧ (revD lo up d).2.2.1 (4 * c + 3) = d.2.2.1 (4 * c + 1) := fun c hc hl => by
    have e : ∀ k, k < 4 → (revD lo up d).2.2.1 (4 * c + k) = d.2.2.1 (4 * c + (k + 2) % 4) := fun k hk => by
      show revL lo d.1 d.2.2.1 (4 * c + k) = _
      unfold revL
      rw [show (4 * c + k) / 4 = c by omega, if_pos ⟨hc, hl⟩, show (4 * c + k + 2) % 4 = (k + 2) % 4 by omega]
    refine ⟨?_, e 1 (by omega), ?_, e 3 (by omega)⟩
    · have := e 0 (by omega); exact this
    · have := e 2 (by omega); exact this
  have rn : ∀ c k, k < 4 → lo c = false → (revD lo up d).2.2.1 (4 * c + k) = d.2.2.1 (4 * c + k) := fun c k hk hl => by
    show revL lo d.1 d.2.2.1 (4 * c + k) = _
    unfold revL
    rw [show (4 * c + k) / 4 = c by omega, if_neg (by rw [hl]; simp)]
  have r0 : ∀ c, lo c = false → (revD lo up d).2.2.1 (4 * c) = d.2.2.1 (4 * c) := fun c hl => rn c 0 (by omega) hl
  have se : ∀ c, c < d.1 → lo c = up c → (revD lo up d).2.2.2 c = d.2.2.2 c := fun c hc e => by
    show revS lo up d.1 d.2.2.2 c = _
    unfold revS; rw [if_neg (fun x => x.2 e)]
  have sn : ∀ c, c < d.1 → lo c ≠ up c → (revD lo up d).2.2.2 c = -(d.2.2.2 c) := fun c hc e => by
    show revS lo up d.1 d.2.2.2 c = _
    unfold revS; rw [if_pos ⟨hc, e⟩]
  obtain ⟨v, hv⟩ : ∃ v : Int → Int, v = fun l => if φ l = true then -(w l) else w l := ⟨_, rfl⟩
  have vt : ∀ l, φ l = true → v l = -(w l) := fun l e => by rw [hv]; exact if_pos e
  have vf : ∀ l, φ l = false → v l = w l := fun l e => by rw [hv]; exact if_neg (by rw [e]; simp)
  have hk : KFz d v := fun c hc => by
    have hk : kf (revD lo up d).2.2.2 (revD lo up d).2.2.1 w c := hw c hc
    show kf d.2.2.2 d.2.2.1 v c
    have s1 := hs c hc
    obtain ⟨g0, g1, g2, g3⟩ := f0 c hc
    cases hlo : lo c <;> cases hup : up c <;> rw [hlo] at g0 g2 <;> rw [hup] at g1 g3
    · have q0 := se c hc (by rw [hlo, hup])
      by_cases q : d.2.2.2 c ≤ 0
      · rw [kf_n (by omega), r0 c hlo, rn c 1 (by omega) hlo, rn c 2 (by omega) hlo, rn c 3 (by omega) hlo] at hk
        rw [kf_n q, vf _ g0, vf _ g1, vf _ g2, vf _ g3]; exact hk
      · rw [kf_p (by omega), r0 c hlo, rn c 1 (by omega) hlo, rn c 2 (by omega) hlo, rn c 3 (by omega) hlo] at hk
        rw [kf_p q, vf _ g0, vf _ g1, vf _ g2, vf _ g3]; exact hk
    · have q0 := sn c hc (by rw [hlo, hup]; simp)
      by_cases q : d.2.2.2 c ≤ 0
      · rw [kf_p (by omega), r0 c hlo, rn c 1 (by omega) hlo, rn c 2 (by omega) hlo, rn c 3 (by omega) hlo] at hk
        rw [kf_n q, vf _ g0, vt _ g1, vf _ g2, vt _ g3]; omega
      · rw [kf_n (by omega), r0 c hlo, rn c 1 (by omega) hlo, rn c 2 (by omega) hlo, rn c 3 (by omega) hlo] at hk
        rw [kf_p q, vf _ g0, vt _ g1, vf _ g2, vt _ g3]; omega
    · have q0 := sn c hc (by rw [hlo, hup]; simp)
      obtain ⟨t0, t1, t2, t3⟩ := rl c hc hlo
      by_cases q : d.2.2.2 c ≤ 0
      · rw [kf_p (by omega), t0, t1, t2, t3] at hk
        rw [kf_n q, vt _ g0, vf _ g1, vt _ g2, vf _ g3]; omega
      · rw [kf_n (by omega), t0, t1, t2, t3] at hk
        rw [kf_p q, vt _ g0, vf _ g1, vt _ g2, vf _ g3]; omega
    · have q0 := se c hc (by rw [hlo, hup])
      obtain ⟨t0, t1, t2, t3⟩ := rl c hc hlo
      by_cases q : d.2.2.2 c ≤ 0
      · rw [kf_n (by omega), t0, t1, t2, t3] at hk
        rw [kf_n q, vt _ g0, vt _ g1, vt _ g2, vt _ g3]; omega
      · rw [kf_p (by omega), t0, t1, t2, t3] at hk
        rw [kf_p q, vt _ g0, vt _ g1, vt _ g2, vt _ g3]; omega
  obtain ⟨L, hL⟩ := h v hk
  obtain ⟨M, hM⟩ : ∃ M : Int → Int, M = fun l => if φ l = true then L l - v l else L l := ⟨_, rfl⟩
  have mt : ∀ l, φ l = true → M l = L l + w l := fun l e => by rw [hM]; show (if _ then _ else _) = _; rw [if_pos e, vt l e]; omega
  have mf : ∀ l, φ l = false → M l = L l := fun l e => by rw [hM]; exact if_neg (by rw [e]; simp)
  refine ⟨M, fun c hc => ?_⟩
  have hc' : c < d.1 := hc
  have hp : pt d.2.2.2 d.2.2.1 v L c := hL c hc'
  have hk2 : kf d.2.2.2 d.2.2.1 v c := hk c hc'
  show pt (revD lo up d).2.2.2 (revD lo up d).2.2.1 w M c
  have s1 := hs c hc'
  obtain ⟨g0, g1, g2, g3⟩ := f0 c hc'
  cases hlo : lo c <;> cases hup : up c <;> rw [hlo] at g0 g2 <;> rw [hup] at g1 g3
  · have q0 := se c hc' (by rw [hlo, hup])
    by_cases q : d.2.2.2 c ≤ 0
    · rw [pt_n (by omega), r0 c hlo, rn c 1 (by omega) hlo, rn c 2 (by omega) hlo, rn c 3 (by omega) hlo, mf _ g0, mf _ g1, mf _ g2, mf _ g3]
      rw [pt_n q, vf _ g0, vf _ g3] at hp; exact hp
    · rw [pt_p (by omega), r0 c hlo, rn c 1 (by omega) hlo, rn c 2 (by omega) hlo, rn c 3 (by omega) hlo, mf _ g0, mf _ g1, mf _ g2, mf _ g3]
      rw [pt_p q, vf _ g2, vf _ g3] at hp; exact hp
  · have q0 := sn c hc' (by rw [hlo, hup]; simp)
    by_cases q : d.2.2.2 c ≤ 0
    · rw [pt_p (by omega), r0 c hlo, rn c 1 (by omega) hlo, rn c 2 (by omega) hlo, rn c 3 (by omega) hlo, mf _ g0, mt _ g1, mf _ g2, mt _ g3]
      rw [pt_n q, vf _ g0, vt _ g3] at hp
      rw [kf_n q, vf _ g0, vt _ g1, vf _ g2, vt _ g3] at hk2
      omega
    · rw [pt_n (by omega), r0 c hlo, rn c 1 (by omega) hlo, rn c 2 (by omega) hlo, rn c 3 (by omega) hlo, mf _ g0, mt _ g1, mf _ g2, mt _ g3]
      rw [pt_p q, vf _ g2, vt _ g3] at hp
      rw [kf_p q, vf _ g0, vt _ g1, vf _ g2, vt _ g3] at hk2
      omega
  · have q0 := sn c hc' (by rw [hlo, hup]; simp)
    obtain ⟨t0, t1, t2, t3⟩ := rl c hc' hlo
    by_cases q : d.2.2.2 c ≤ 0
    · rw [pt_p (by omega), t0, t1, t2, t3, mt _ g0, mf _ g1, mt _ g2, mf _ g3]
      rw [pt_n q, vt _ g0, vf _ g3] at hp
      rw [kf_n q, vt _ g0, vf _ g1, vt _ g2, vf _ g3] at hk2
      omega
    · rw [pt_n (by omega), t0, t1, t2, t3, mt _ g0, mf _ g1, mt _ g2, mf _ g3]
      rw [pt_p q, vt _ g2, vf _ g3] at hp
      rw [kf_p q, vt _ g0, vf _ g1, vt _ g2, vf _ g3] at hk2
      omega
  · have q0 := se c hc' (by rw [hlo, hup])
    obtain ⟨t0, t1, t2, t3⟩ := rl c hc' hlo
    by_cases q : d.2.2.2 c ≤ 0
    · rw [pt_n (by omega), t0, t1, t2, t3, mt _ g0, mt _ g1, mt _ g2, mt _ g3]
      rw [pt_n q, vt _ g0, vt _ g3] at hp
      rw [kf_n q, vt _ g0, vt _ g1, vt _ g2, vt _ g3] at hk2
      omega
    · rw [pt_p (by omega), t0, t1, t2, t3, mt _ g0, mt _ g1, mt _ g2, mt _ g3]
      rw [pt_p q, vt _ g2, vt _ g3] at hp
      rw [kf_p q, vt _ g0, vt _ g1, vt _ g2, vt _ g3] at hk2
      omega

theorem KCD.last {C s : Int → Int} : ∀ (M : List (List Int × List Int)) (i o z : Int), KCD C s M i o z → M ≠ [] → s (2 * (i + (M.length : Int))) = z := by
  intro M
  induction M with
  | nil => intro i o z _ h; exact absurd rfl h
  | cons x M ih =>
    intro i o z h _
    obtain ⟨S, E⟩ := x
    obtain ⟨cS, cE, -, -, -, -, h5, -, h7⟩ := h
    rw [List.length_cons]
    by_cases c : M = []
    · subst c
      have e : o + (cS.length : Int) + (cE.length : Int) = z := h7
      rw [← e, ← h5]
      congr 1
      show 2 * (i + ((0 + 1 : Nat) : Int)) = 2 * i + 2
      omega
    · rw [show i + ((M.length + 1 : Nat) : Int) = i + 1 + (M.length : Int) by omega]
      exact ih _ _ _ h7 c
/-! both say the same of words -/
theorem pe1_l {g : Int → Int} {w : Int → Int64} {B o : Int} {S : List Int} {v : Int64} (ho : 0 ≤ o) (hz : o + (S.length : Int) ≤ 400) (hr : rdl g (B + o) S) (hv : rlx w S [] = some [v]) : pe1 g w B o (o + (S.length : Int)) = some v := by
  unfold pe1
  rw [if_pos ⟨ho, by omega, hz⟩, show (o + (S.length : Int) - o).toNat = S.length by omega, pex_rlx S _ [] hr, hv]
  rfl
theorem ce1_l {C : Int → Int} {w : Int → Int64} {o : Int} {cl : Nat} {S : List Int} {v : Int64} (ho : 0 ≤ o) (hz : o + (S.length : Int) ≤ (cl : Int)) (hcl : cl ≤ 400) (hr : rdl C o S) (hv : clx w S [] = some [v]) : ce1 C cl w o (o + (S.length : Int)) = some v := by
  unfold ce1
  rw [if_pos ⟨ho, by omega, hz, hcl⟩, show (o + (S.length : Int) - o).toNat = S.length by omega, cex_clx S _ [] hr, hv]
  rfl
theorem rule_eq {g cl C s : Int → Int} {t : Int} {cln : Nat} {w : Int → Int64} (hcl : cln ≤ 400) : ∀ (M : List (List Int × List Int)) (c o z i o2 z2 : Int), CLD g cl t M c o z → KCD C s M i o2 z2 → (∀ x ∈ M, WFc x) → 0 ≤ o → z ≤ 400 → 0 ≤ o2 → z2 ≤ (cln : Int) → ∃ v, prl g cl w t M.length c = some v ∧ crl C s cln w M.length (2 * i) = some v := by
  intro M
  induction M with
  | nil => intro c o z i o2 z2 _ _ _ _ _ _ _; exact ⟨0, rfl, rfl⟩
  | cons x M ih =>
    intro c o z i o2 z2 hC hK hW o0 zb o20 z2b
    obtain ⟨S, E⟩ := x
    have hle := CLD.le M _ _ _ hC.2.2
    obtain ⟨⟨a0, a1, a2, a3, a4⟩, hr, hC2⟩ := hC
    obtain ⟨cS, cE, k1, k2, k3, k4, k5, k6, hK2⟩ := hK
    have hle2 := KCD.le M _ _ _ hK2
    have hW1 := hW (S, E) List.mem_cons_self
    obtain ⟨v, hv⟩ := hW1.1 w
    have hr1 := rdl_app S E _ hr
    have k61 := rdl_app cS cE _ k6
    obtain ⟨u, hu1, hu2⟩ := ih (c + 1) _ _ (i + 1) _ _ hC2 hK2 (fun y hy => hW y (List.mem_cons_of_mem _ hy)) (by omega) zb (by omega) z2b
    have e1 : pe1 g w (400 * t) (cl (48 * t + 4 * c)) (cl (48 * t + 4 * c + 1)) = some v := by rw [a0, a1]; exact pe1_l o0 (by omega) hr1.1 hv
    have e2 : ce1 C cln w (s (2 * i)) (s (2 * i + 1)) = some v := by rw [k3, k4]; exact ce1_l o20 (by omega) hcl k61.1 (k1 w [] _ hv)
    have p1 : prl g cl w t (M.length + 1) c = if cl (48 * t + 4 * c + 2) < 0 then pe1 g w (400 * t) (cl (48 * t + 4 * c)) (cl (48 * t + 4 * c + 1)) else (match pe1 g w (400 * t) (cl (48 * t + 4 * c + 2)) (cl (48 * t + 4 * c + 3)) with | none => none | some t1 => if t1 = 1 then pe1 g w (400 * t) (cl (48 * t + 4 * c)) (cl (48 * t + 4 * c + 1)) else prl g cl w t M.length (c + 1)) := rfl
    have p2 : crl C s cln w (M.length + 1) (2 * i) = if s (2 * i + 1) = s (2 * i + 2) then ce1 C cln w (s (2 * i)) (s (2 * i + 1)) else (match ce1 C cln w (s (2 * i + 1)) (s (2 * i + 2)) with | none => none | some t1 => if t1 = 0 then crl C s cln w M.length (2 * i + 2) else ce1 C cln w (s (2 * i)) (s (2 * i + 1))) := rfl
    show ∃ v, prl g cl w t (M.length + 1) c = some v ∧ crl C s cln w (M.length + 1) (2 * i) = some v
    rw [p1, p2, e1, e2]
    rw [show 2 * (i + 1) = 2 * i + 2 by omega] at hu2
    by_cases hE : E = []
    · have hcE : cE = [] := by
        rcases k2 with ⟨_, r⟩ | ⟨r, _⟩
        · exact r
        · exact absurd hE r
      refine ⟨v, by rw [a2 hE]; exact if_pos (by decide), if_pos ?_⟩
      rw [k4, k5, hcE]
      show o2 + (cS.length : Int) = o2 + (cS.length : Int) + ((0 : Nat) : Int)
      omega
    · have hCR : CR E cE := by
        rcases k2 with ⟨r, _⟩ | ⟨_, r⟩
        · exact absurd r hE
        · exact r
      rcases hW1.2 with r | r
      · exact absurd r hE
      · obtain ⟨tv, h01, htv⟩ := r w
        have hcv := hCR w [] _ htv
        have hne : cE ≠ [] := by
          intro r
          rw [r] at hcv
          have : ([] : List Int64) = [tv] := Option.some.inj hcv
          cases this
        have hlen : 0 < cE.length := List.length_pos_iff.mpr hne
        have f1 : pe1 g w (400 * t) (cl (48 * t + 4 * c + 2)) (cl (48 * t + 4 * c + 3)) = some tv := by
          rw [a3 hE, a4]
          exact pe1_l (by omega) (by omega) (by rw [← Int.add_assoc]; exact hr1.2) htv
        have f2 : ce1 C cln w (s (2 * i + 1)) (s (2 * i + 2)) = some tv := by
          rw [k4, k5]
          exact ce1_l (by omega) (by omega) hcl k61.2 hcv
        rw [f1, f2, if_neg (by rw [a3 hE]; omega), if_neg (by rw [k4, k5]; omega)]
        rcases h01 with rfl | rfl
        · refine ⟨u, ?_, ?_⟩
          · show (if (0 : Int64) = 1 then some v else prl g cl w t M.length (c + 1)) = some u
            rw [if_neg (by decide)]; exact hu1
          · show (if (0 : Int64) = 0 then crl C s cln w M.length (2 * i + 2) else some v) = some u
            rw [if_pos rfl]; exact hu2
        · refine ⟨v, ?_, ?_⟩
          · show (if (1 : Int64) = 1 then some v else prl g cl w t M.length (c + 1)) = some v
            rw [if_pos rfl]
          · show (if (1 : Int64) = 0 then crl C s cln w M.length (2 * i + 2) else some v) = some v
            rw [if_neg (by decide)]
/-! rules that stand are left alone -/
theorem pex_fr {g g2 : Int → Int} {w : Int → Int64} : ∀ (n : Nat) (q : Int) (st : List Int64), (∀ j, q ≤ j → j < q + (n : Int) → g2 j = g j) → pex g2 w n q st = pex g w n q st := by
  intro n
  induction n with
  | zero => intro q st _; rfl
  | succ n ih =>
    intro q st h
    have e : ∀ g : Int → Int, pex g w (n + 1) q st = (match pstp (g q) w st with | some s2 => pex g w n (q + 1) s2 | none => none) := fun _ => rfl
    rw [e, e, h q (by omega) (by omega)]
    cases pstp (g q) w st with
    | none => rfl
    | some s2 => exact ih (q + 1) s2 (fun j j0 j1 => h j (by omega) (by omega))
theorem pe1_fr {g g2 : Int → Int} {w : Int → Int64} {B b e : Int} (h : ∀ j, B ≤ j → j < B + 400 → g2 j = g j) : pe1 g2 w B b e = pe1 g w B b e := by
  unfold pe1
  by_cases c : 0 ≤ b ∧ b ≤ e ∧ e ≤ 400
  · rw [if_pos c, if_pos c, pex_fr _ _ _ (fun j j0 j1 => h j (by omega) (by omega))]
  · rw [if_neg c, if_neg c]
theorem prl_fr {g g2 cl cl2 : Int → Int} {w : Int → Int64} {r : Int} (h : ∀ j, 400 * r ≤ j → j < 400 * r + 400 → g2 j = g j) (hc : ∀ j, 48 * r ≤ j → j < 48 * r + 48 → cl2 j = cl j) : ∀ (n : Nat) (c : Int), 0 ≤ c → c + (n : Int) ≤ 12 → prl g2 cl2 w r n c = prl g cl w r n c := by
  intro n
  induction n with
  | zero => intro c _ _; rfl
  | succ n ih =>
    intro c c0 c1
    have e : ∀ g cl : Int → Int, prl g cl w r (n + 1) c = if cl (48 * r + 4 * c + 2) < 0 then pe1 g w (400 * r) (cl (48 * r + 4 * c)) (cl (48 * r + 4 * c + 1)) else (match pe1 g w (400 * r) (cl (48 * r + 4 * c + 2)) (cl (48 * r + 4 * c + 3)) with | none => none | some t1 => if t1 = 1 then pe1 g w (400 * r) (cl (48 * r + 4 * c)) (cl (48 * r + 4 * c + 1)) else prl g cl w r n (c + 1)) := fun _ _ => rfl
    rw [e, e, hc _ (by omega) (by omega), hc _ (by omega) (by omega), hc _ (by omega) (by omega), hc _ (by omega) (by omega), pe1_fr h, pe1_fr h, ih (c + 1) (by omega) (by omega)]
theorem KCD.rb {C s C2 s2 : Int → Int} {M : List (List Int × List Int)} {z n : Int} (h : KCD C s M 0 0 z) (hC : agr C2 C z) (hs : agr s2 s n) (hn : 2 * (M.length : Int) < n) (hM : M ≠ []) : KCD C2 s2 M 0 0 z := by
  refine KCD.fr M 0 0 z h (fun j j0 j1 => hC j j0 j1) (fun j j0 j1 => hs j (by omega) (by omega)) (fun _ => ?_)
  rw [hs _ (by omega) (by omega)]
  exact KCD.last M 0 0 z h hM

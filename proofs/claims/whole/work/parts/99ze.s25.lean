def CPf (I : XI) (i : Nat) (n : Int) (f : Int → Int) : Prop := ∀ j, 0 ≤ j → j < n → f j = I i j
/-- what Arrays.copyOf makes -/
def CPQ (I : XI) (L : XL) (G : XG) (i : Nat) (n : Int) : XQ := fun r2 I2 L2 G2 => ∃ f, (CPf I i n f ∧ (RB (I i) → RB f)) ∧ r2 = some (xr (some G.2.2.1)) ∧ I2 = xsc I G.2.2.1 f ∧ L2 = xsc L G.2.2.1 (fun _ => 0) ∧ G2 = xnewG G (101, n.toNat)
theorem cpf_c {I : XI} {i : Nat} {n : Int} (h0 : 0 ≤ n) : CPf I i n (xcp (I i) (fun _ => 0) 0 0 n) := by
  intro j j0 j1
  unfold xcp
  rw [if_pos (by omega)]
  congr 1
  omega
theorem rb_cp {f : Int → Int} {n : Int} (h : RB f) : RB (xcp f (fun _ => 0) 0 0 n) := by
  intro j
  unfold xcp
  split
  · exact h _
  · exact ⟨by show (-2147483648 : Int) ≤ 0; decide, by show (0 : Int) ≤ 2147483647; decide⟩
theorem xsc_sc {α : Type} {F : Nat → α} {c : Nat} {f g : α} : xsc (xsc F c f) c g = xsc F c g := by
  funext i
  unfold xsc
  cases Nat.beq i c <;> rfl
set_option maxRecDepth 8000 in
theorem w263a_0 {d : Nat} {I : XI} {L : XL} {D2 : (Nat → Nat) × (Nat → Nat) × ((Int → Int) × Nat)} {post : XQ} {n : Int} (h : ((xrg n ∧ xrg (400 : Int)) ∧ ((¬ n = (400 : Int) → ((0 ≤ n ∧ n ≤ 100000 ∧ 1 ≤ 1 ∧ n.toNat ≤ 400) ∧ ((xrg (400 : Int) ∧ xrg n ∧ 1 ≤ d ∧ xwds [xi 0, xr (some 127), xi 0, xr (some 32)] ≤ 8) ∧ ((0 ≤ (0 : Int) ∧ 0 ≤ (0 : Int) ∧ 0 ≤ (if n < (400 : Int) then n else (400 : Int)) ∧ (0 : Int) + (if n < (400 : Int) then n else (400 : Int)) ≤ ((400 : Nat) : Int) ∧ (0 : Int) + (if n < (400 : Int) then n else (400 : Int)) ≤ (n.toNat : Int) ∧ 1 ≤ d ∧ xwds [] ≤ 8) ∧ post (some (xr (some 127))) (xsc (xsc I 127 (fun _ => 0)) 127 (xcp (I 32) (fun _ => 0) 0 0 (if n < (400 : Int) then n else (400 : Int)))) (xsc L 127 (fun _ => 0)) (xnewG (xnewG (gG (0, D2)) (4, 0)) (101, n.toNat)))))) ∧ (n = (400 : Int) → ((1 ≤ d ∧ 1 ≤ 1 ∧ 400 ≤ 400 ∧ xwds [] ≤ 8) ∧ post (some (xr (some 127))) (xsc I 127 (I 32)) (xsc L 127 (fun _ => 0)) (xnewG (xnewG (gG (0, D2)) (4, 0)) (101, 400))))))) : xR d 263 es_263 0 [xr (some 32), xi n, xt 0] [] I L (xnewG (gG (0, D2)) (4, 0)) 1 400 post := xW_R (fun _ => false) 22 _ _ _ _ _ _ _ _ _ _ _ _ h
theorem c263a_0 {I : XI} {L : XL} {D2 : (Nat → Nat) × (Nat → Nat) × ((Int → Int) × Nat)} {n : Int} (h : 0 ≤ n ∧ n ≤ 400) : xM 1 263 [xr (some 32), xi n] I L (xnewG (gG (0, D2)) (4, 0)) (1, 400) (CPQ I L (xnewG (gG (0, D2)) (4, 0)) 32 n) := by
  intro d hd
  refine w263a_0 ?_
  refine ⟨⟨⟨by omega, by omega⟩, ⟨by decide, by decide⟩⟩, fun hn => ⟨⟨h.1, by omega, by decide, by omega⟩, ⟨⟨by decide, by decide⟩, ⟨by omega, by omega⟩, hd, by decide⟩, ⟨by decide, by decide, ?_, ?_, ?_, hd, by decide⟩, ?_⟩, fun hn => ⟨⟨hd, by decide, by decide, by decide⟩, ?_⟩⟩
  · rw [if_pos (by omega)]; exact h.1
  · rw [if_pos (by omega)]; show (0 : Int) + n ≤ 400; omega
  · rw [if_pos (by omega)]; omega
  · rw [if_pos (by omega)]
    exact ⟨_, ⟨cpf_c h.1, rb_cp⟩, rfl, xsc_sc, rfl, rfl⟩
  · subst hn
    exact ⟨_, ⟨fun _ _ _ => rfl, fun r => r⟩, rfl, rfl, rfl, rfl⟩
set_option maxRecDepth 8000 in
theorem w263b_0 {d : Nat} {I : XI} {L : XL} {D2 : (Nat → Nat) × (Nat → Nat) × ((Int → Int) × Nat)} {a : Nat} {post : XQ} {n : Int} (h : ((xrg n ∧ xrg (25 : Int)) ∧ ((¬ n = (25 : Int) → ((0 ≤ n ∧ n ≤ 100000 ∧ 1 ≤ 1 ∧ n.toNat ≤ 400) ∧ ((xrg (25 : Int) ∧ xrg n ∧ 1 ≤ d ∧ xwds [xi 0, xr (some 128), xi 0, xr (some 33)] ≤ 8) ∧ ((0 ≤ (0 : Int) ∧ 0 ≤ (0 : Int) ∧ 0 ≤ (if n < (25 : Int) then n else (25 : Int)) ∧ (0 : Int) + (if n < (25 : Int) then n else (25 : Int)) ≤ ((25 : Nat) : Int) ∧ (0 : Int) + (if n < (25 : Int) then n else (25 : Int)) ≤ (n.toNat : Int) ∧ 1 ≤ d ∧ xwds [] ≤ 8) ∧ post (some (xr (some 128))) (xsc (xsc I 128 (fun _ => 0)) 128 (xcp (I 33) (fun _ => 0) 0 0 (if n < (25 : Int) then n else (25 : Int)))) (xsc L 128 (fun _ => 0)) (xnewG (xnewG (xnewG (gG (0, D2)) (4, 0)) (101, a)) (101, n.toNat)))))) ∧ (n = (25 : Int) → ((1 ≤ d ∧ 1 ≤ 1 ∧ 25 ≤ 400 ∧ xwds [] ≤ 8) ∧ post (some (xr (some 128))) (xsc I 128 (I 33)) (xsc L 128 (fun _ => 0)) (xnewG (xnewG (xnewG (gG (0, D2)) (4, 0)) (101, a)) (101, 25))))))) : xR d 263 es_263 0 [xr (some 33), xi n, xt 0] [] I L (xnewG (xnewG (gG (0, D2)) (4, 0)) (101, a)) 1 400 post := xW_R (fun _ => false) 22 _ _ _ _ _ _ _ _ _ _ _ _ h
theorem c263b_0 {I : XI} {L : XL} {D2 : (Nat → Nat) × (Nat → Nat) × ((Int → Int) × Nat)} {a : Nat} {n : Int} (h : 0 ≤ n ∧ n ≤ 25) : xM 1 263 [xr (some 33), xi n] I L (xnewG (xnewG (gG (0, D2)) (4, 0)) (101, a)) (1, 400) (CPQ I L (xnewG (xnewG (gG (0, D2)) (4, 0)) (101, a)) 33 n) := by
  intro d hd
  refine w263b_0 ?_
  refine ⟨⟨⟨by omega, by omega⟩, ⟨by decide, by decide⟩⟩, fun hn => ⟨⟨h.1, by omega, by decide, by omega⟩, ⟨⟨by decide, by decide⟩, ⟨by omega, by omega⟩, hd, by decide⟩, ⟨by decide, by decide, ?_, ?_, ?_, hd, by decide⟩, ?_⟩, fun hn => ⟨⟨hd, by decide, by decide, by decide⟩, ?_⟩⟩
  · rw [if_pos (by omega)]; exact h.1
  · rw [if_pos (by omega)]; show (0 : Int) + n ≤ 25; omega
  · rw [if_pos (by omega)]; omega
  · rw [if_pos (by omega)]
    exact ⟨_, ⟨cpf_c h.1, rb_cp⟩, rfl, xsc_sc, rfl, rfl⟩
  · subst hn
    exact ⟨_, ⟨fun _ _ _ => rfl, fun r => r⟩, rfl, rfl, rfl, rfl⟩
set_option maxRecDepth 8000 in
theorem w263a_1 {d : Nat} {I : XI} {L : XL} {D2 : (Nat → Nat) × (Nat → Nat) × ((Int → Int) × Nat)} {post : XQ} {n : Int} (h : ((xrg n ∧ xrg (400 : Int)) ∧ ((¬ n = (400 : Int) → ((0 ≤ n ∧ n ≤ 100000 ∧ 1 ≤ 1 ∧ n.toNat ≤ 400) ∧ ((xrg (400 : Int) ∧ xrg n ∧ 1 ≤ d ∧ xwds [xi 0, xr (some 130), xi 0, xr (some 32)] ≤ 8) ∧ ((0 ≤ (0 : Int) ∧ 0 ≤ (0 : Int) ∧ 0 ≤ (if n < (400 : Int) then n else (400 : Int)) ∧ (0 : Int) + (if n < (400 : Int) then n else (400 : Int)) ≤ ((400 : Nat) : Int) ∧ (0 : Int) + (if n < (400 : Int) then n else (400 : Int)) ≤ (n.toNat : Int) ∧ 1 ≤ d ∧ xwds [] ≤ 8) ∧ post (some (xr (some 130))) (xsc (xsc I 130 (fun _ => 0)) 130 (xcp (I 32) (fun _ => 0) 0 0 (if n < (400 : Int) then n else (400 : Int)))) (xsc L 130 (fun _ => 0)) (xnewG (xnewG (gG (1, D2)) (4, 0)) (101, n.toNat)))))) ∧ (n = (400 : Int) → ((1 ≤ d ∧ 1 ≤ 1 ∧ 400 ≤ 400 ∧ xwds [] ≤ 8) ∧ post (some (xr (some 130))) (xsc I 130 (I 32)) (xsc L 130 (fun _ => 0)) (xnewG (xnewG (gG (1, D2)) (4, 0)) (101, 400))))))) : xR d 263 es_263 0 [xr (some 32), xi n, xt 0] [] I L (xnewG (gG (1, D2)) (4, 0)) 1 400 post := xW_R (fun _ => false) 22 _ _ _ _ _ _ _ _ _ _ _ _ h
theorem c263a_1 {I : XI} {L : XL} {D2 : (Nat → Nat) × (Nat → Nat) × ((Int → Int) × Nat)} {n : Int} (h : 0 ≤ n ∧ n ≤ 400) : xM 1 263 [xr (some 32), xi n] I L (xnewG (gG (1, D2)) (4, 0)) (1, 400) (CPQ I L (xnewG (gG (1, D2)) (4, 0)) 32 n) := by
  intro d hd
  refine w263a_1 ?_
  refine ⟨⟨⟨by omega, by omega⟩, ⟨by decide, by decide⟩⟩, fun hn => ⟨⟨h.1, by omega, by decide, by omega⟩, ⟨⟨by decide, by decide⟩, ⟨by omega, by omega⟩, hd, by decide⟩, ⟨by decide, by decide, ?_, ?_, ?_, hd, by decide⟩, ?_⟩, fun hn => ⟨⟨hd, by decide, by decide, by decide⟩, ?_⟩⟩
  · rw [if_pos (by omega)]; exact h.1
  · rw [if_pos (by omega)]; show (0 : Int) + n ≤ 400; omega
  · rw [if_pos (by omega)]; omega
  · rw [if_pos (by omega)]
    exact ⟨_, ⟨cpf_c h.1, rb_cp⟩, rfl, xsc_sc, rfl, rfl⟩
  · subst hn
    exact ⟨_, ⟨fun _ _ _ => rfl, fun r => r⟩, rfl, rfl, rfl, rfl⟩
set_option maxRecDepth 8000 in
theorem w263b_1 {d : Nat} {I : XI} {L : XL} {D2 : (Nat → Nat) × (Nat → Nat) × ((Int → Int) × Nat)} {a : Nat} {post : XQ} {n : Int} (h : ((xrg n ∧ xrg (25 : Int)) ∧ ((¬ n = (25 : Int) → ((0 ≤ n ∧ n ≤ 100000 ∧ 1 ≤ 1 ∧ n.toNat ≤ 400) ∧ ((xrg (25 : Int) ∧ xrg n ∧ 1 ≤ d ∧ xwds [xi 0, xr (some 131), xi 0, xr (some 33)] ≤ 8) ∧ ((0 ≤ (0 : Int) ∧ 0 ≤ (0 : Int) ∧ 0 ≤ (if n < (25 : Int) then n else (25 : Int)) ∧ (0 : Int) + (if n < (25 : Int) then n else (25 : Int)) ≤ ((25 : Nat) : Int) ∧ (0 : Int) + (if n < (25 : Int) then n else (25 : Int)) ≤ (n.toNat : Int) ∧ 1 ≤ d ∧ xwds [] ≤ 8) ∧ post (some (xr (some 131))) (xsc (xsc I 131 (fun _ => 0)) 131 (xcp (I 33) (fun _ => 0) 0 0 (if n < (25 : Int) then n else (25 : Int)))) (xsc L 131 (fun _ => 0)) (xnewG (xnewG (xnewG (gG (1, D2)) (4, 0)) (101, a)) (101, n.toNat)))))) ∧ (n = (25 : Int) → ((1 ≤ d ∧ 1 ≤ 1 ∧ 25 ≤ 400 ∧ xwds [] ≤ 8) ∧ post (some (xr (some 131))) (xsc I 131 (I 33)) (xsc L 131 (fun _ => 0)) (xnewG (xnewG (xnewG (gG (1, D2)) (4, 0)) (101, a)) (101, 25))))))) : xR d 263 es_263 0 [xr (some 33), xi n, xt 0] [] I L (xnewG (xnewG (gG (1, D2)) (4, 0)) (101, a)) 1 400 post := xW_R (fun _ => false) 22 _ _ _ _ _ _ _ _ _ _ _ _ h
theorem c263b_1 {I : XI} {L : XL} {D2 : (Nat → Nat) × (Nat → Nat) × ((Int → Int) × Nat)} {a : Nat} {n : Int} (h : 0 ≤ n ∧ n ≤ 25) : xM 1 263 [xr (some 33), xi n] I L (xnewG (xnewG (gG (1, D2)) (4, 0)) (101, a)) (1, 400) (CPQ I L (xnewG (xnewG (gG (1, D2)) (4, 0)) (101, a)) 33 n) := by
  intro d hd
  refine w263b_1 ?_
  refine ⟨⟨⟨by omega, by omega⟩, ⟨by decide, by decide⟩⟩, fun hn => ⟨⟨h.1, by omega, by decide, by omega⟩, ⟨⟨by decide, by decide⟩, ⟨by omega, by omega⟩, hd, by decide⟩, ⟨by decide, by decide, ?_, ?_, ?_, hd, by decide⟩, ?_⟩, fun hn => ⟨⟨hd, by decide, by decide, by decide⟩, ?_⟩⟩
  · rw [if_pos (by omega)]; exact h.1
  · rw [if_pos (by omega)]; show (0 : Int) + n ≤ 25; omega
  · rw [if_pos (by omega)]; omega
  · rw [if_pos (by omega)]
    exact ⟨_, ⟨cpf_c h.1, rb_cp⟩, rfl, xsc_sc, rfl, rfl⟩
  · subst hn
    exact ⟨_, ⟨fun _ _ _ => rfl, fun r => r⟩, rfl, rfl, rfl, rfl⟩
set_option maxRecDepth 8000 in
theorem w263a_2 {d : Nat} {I : XI} {L : XL} {D2 : (Nat → Nat) × (Nat → Nat) × ((Int → Int) × Nat)} {post : XQ} {n : Int} (h : ((xrg n ∧ xrg (400 : Int)) ∧ ((¬ n = (400 : Int) → ((0 ≤ n ∧ n ≤ 100000 ∧ 1 ≤ 1 ∧ n.toNat ≤ 400) ∧ ((xrg (400 : Int) ∧ xrg n ∧ 1 ≤ d ∧ xwds [xi 0, xr (some 133), xi 0, xr (some 32)] ≤ 8) ∧ ((0 ≤ (0 : Int) ∧ 0 ≤ (0 : Int) ∧ 0 ≤ (if n < (400 : Int) then n else (400 : Int)) ∧ (0 : Int) + (if n < (400 : Int) then n else (400 : Int)) ≤ ((400 : Nat) : Int) ∧ (0 : Int) + (if n < (400 : Int) then n else (400 : Int)) ≤ (n.toNat : Int) ∧ 1 ≤ d ∧ xwds [] ≤ 8) ∧ post (some (xr (some 133))) (xsc (xsc I 133 (fun _ => 0)) 133 (xcp (I 32) (fun _ => 0) 0 0 (if n < (400 : Int) then n else (400 : Int)))) (xsc L 133 (fun _ => 0)) (xnewG (xnewG (gG (2, D2)) (4, 0)) (101, n.toNat)))))) ∧ (n = (400 : Int) → ((1 ≤ d ∧ 1 ≤ 1 ∧ 400 ≤ 400 ∧ xwds [] ≤ 8) ∧ post (some (xr (some 133))) (xsc I 133 (I 32)) (xsc L 133 (fun _ => 0)) (xnewG (xnewG (gG (2, D2)) (4, 0)) (101, 400))))))) : xR d 263 es_263 0 [xr (some 32), xi n, xt 0] [] I L (xnewG (gG (2, D2)) (4, 0)) 1 400 post := xW_R (fun _ => false) 22 _ _ _ _ _ _ _ _ _ _ _ _ h
theorem c263a_2 {I : XI} {L : XL} {D2 : (Nat → Nat) × (Nat → Nat) × ((Int → Int) × Nat)} {n : Int} (h : 0 ≤ n ∧ n ≤ 400) : xM 1 263 [xr (some 32), xi n] I L (xnewG (gG (2, D2)) (4, 0)) (1, 400) (CPQ I L (xnewG (gG (2, D2)) (4, 0)) 32 n) := by
  intro d hd
  refine w263a_2 ?_
  refine ⟨⟨⟨by omega, by omega⟩, ⟨by decide, by decide⟩⟩, fun hn => ⟨⟨h.1, by omega, by decide, by omega⟩, ⟨⟨by decide, by decide⟩, ⟨by omega, by omega⟩, hd, by decide⟩, ⟨by decide, by decide, ?_, ?_, ?_, hd, by decide⟩, ?_⟩, fun hn => ⟨⟨hd, by decide, by decide, by decide⟩, ?_⟩⟩
  · rw [if_pos (by omega)]; exact h.1
  · rw [if_pos (by omega)]; show (0 : Int) + n ≤ 400; omega
  · rw [if_pos (by omega)]; omega
  · rw [if_pos (by omega)]
    exact ⟨_, ⟨cpf_c h.1, rb_cp⟩, rfl, xsc_sc, rfl, rfl⟩
  · subst hn
    exact ⟨_, ⟨fun _ _ _ => rfl, fun r => r⟩, rfl, rfl, rfl, rfl⟩
set_option maxRecDepth 8000 in
theorem w263b_2 {d : Nat} {I : XI} {L : XL} {D2 : (Nat → Nat) × (Nat → Nat) × ((Int → Int) × Nat)} {a : Nat} {post : XQ} {n : Int} (h : ((xrg n ∧ xrg (25 : Int)) ∧ ((¬ n = (25 : Int) → ((0 ≤ n ∧ n ≤ 100000 ∧ 1 ≤ 1 ∧ n.toNat ≤ 400) ∧ ((xrg (25 : Int) ∧ xrg n ∧ 1 ≤ d ∧ xwds [xi 0, xr (some 134), xi 0, xr (some 33)] ≤ 8) ∧ ((0 ≤ (0 : Int) ∧ 0 ≤ (0 : Int) ∧ 0 ≤ (if n < (25 : Int) then n else (25 : Int)) ∧ (0 : Int) + (if n < (25 : Int) then n else (25 : Int)) ≤ ((25 : Nat) : Int) ∧ (0 : Int) + (if n < (25 : Int) then n else (25 : Int)) ≤ (n.toNat : Int) ∧ 1 ≤ d ∧ xwds [] ≤ 8) ∧ post (some (xr (some 134))) (xsc (xsc I 134 (fun _ => 0)) 134 (xcp (I 33) (fun _ => 0) 0 0 (if n < (25 : Int) then n else (25 : Int)))) (xsc L 134 (fun _ => 0)) (xnewG (xnewG (xnewG (gG (2, D2)) (4, 0)) (101, a)) (101, n.toNat)))))) ∧ (n = (25 : Int) → ((1 ≤ d ∧ 1 ≤ 1 ∧ 25 ≤ 400 ∧ xwds [] ≤ 8) ∧ post (some (xr (some 134))) (xsc I 134 (I 33)) (xsc L 134 (fun _ => 0)) (xnewG (xnewG (xnewG (gG (2, D2)) (4, 0)) (101, a)) (101, 25))))))) : xR d 263 es_263 0 [xr (some 33), xi n, xt 0] [] I L (xnewG (xnewG (gG (2, D2)) (4, 0)) (101, a)) 1 400 post := xW_R (fun _ => false) 22 _ _ _ _ _ _ _ _ _ _ _ _ h
theorem c263b_2 {I : XI} {L : XL} {D2 : (Nat → Nat) × (Nat → Nat) × ((Int → Int) × Nat)} {a : Nat} {n : Int} (h : 0 ≤ n ∧ n ≤ 25) : xM 1 263 [xr (some 33), xi n] I L (xnewG (xnewG (gG (2, D2)) (4, 0)) (101, a)) (1, 400) (CPQ I L (xnewG (xnewG (gG (2, D2)) (4, 0)) (101, a)) 33 n) := by
  intro d hd
  refine w263b_2 ?_
  refine ⟨⟨⟨by omega, by omega⟩, ⟨by decide, by decide⟩⟩, fun hn => ⟨⟨h.1, by omega, by decide, by omega⟩, ⟨⟨by decide, by decide⟩, ⟨by omega, by omega⟩, hd, by decide⟩, ⟨by decide, by decide, ?_, ?_, ?_, hd, by decide⟩, ?_⟩, fun hn => ⟨⟨hd, by decide, by decide, by decide⟩, ?_⟩⟩
  · rw [if_pos (by omega)]; exact h.1
  · rw [if_pos (by omega)]; show (0 : Int) + n ≤ 25; omega
  · rw [if_pos (by omega)]; omega
  · rw [if_pos (by omega)]
    exact ⟨_, ⟨cpf_c h.1, rb_cp⟩, rfl, xsc_sc, rfl, rfl⟩
  · subst hn
    exact ⟨_, ⟨fun _ _ _ => rfl, fun r => r⟩, rfl, rfl, rfl, rfl⟩
set_option maxRecDepth 8000 in
theorem w263a_3 {d : Nat} {I : XI} {L : XL} {D2 : (Nat → Nat) × (Nat → Nat) × ((Int → Int) × Nat)} {post : XQ} {n : Int} (h : ((xrg n ∧ xrg (400 : Int)) ∧ ((¬ n = (400 : Int) → ((0 ≤ n ∧ n ≤ 100000 ∧ 1 ≤ 1 ∧ n.toNat ≤ 400) ∧ ((xrg (400 : Int) ∧ xrg n ∧ 1 ≤ d ∧ xwds [xi 0, xr (some 136), xi 0, xr (some 32)] ≤ 8) ∧ ((0 ≤ (0 : Int) ∧ 0 ≤ (0 : Int) ∧ 0 ≤ (if n < (400 : Int) then n else (400 : Int)) ∧ (0 : Int) + (if n < (400 : Int) then n else (400 : Int)) ≤ ((400 : Nat) : Int) ∧ (0 : Int) + (if n < (400 : Int) then n else (400 : Int)) ≤ (n.toNat : Int) ∧ 1 ≤ d ∧ xwds [] ≤ 8) ∧ post (some (xr (some 136))) (xsc (xsc I 136 (fun _ => 0)) 136 (xcp (I 32) (fun _ => 0) 0 0 (if n < (400 : Int) then n else (400 : Int)))) (xsc L 136 (fun _ => 0)) (xnewG (xnewG (gG (3, D2)) (4, 0)) (101, n.toNat)))))) ∧ (n = (400 : Int) → ((1 ≤ d ∧ 1 ≤ 1 ∧ 400 ≤ 400 ∧ xwds [] ≤ 8) ∧ post (some (xr (some 136))) (xsc I 136 (I 32)) (xsc L 136 (fun _ => 0)) (xnewG (xnewG (gG (3, D2)) (4, 0)) (101, 400))))))) : xR d 263 es_263 0 [xr (some 32), xi n, xt 0] [] I L (xnewG (gG (3, D2)) (4, 0)) 1 400 post := xW_R (fun _ => false) 22 _ _ _ _ _ _ _ _ _ _ _ _ h
theorem c263a_3 {I : XI} {L : XL} {D2 : (Nat → Nat) × (Nat → Nat) × ((Int → Int) × Nat)} {n : Int} (h : 0 ≤ n ∧ n ≤ 400) : xM 1 263 [xr (some 32), xi n] I L (xnewG (gG (3, D2)) (4, 0)) (1, 400) (CPQ I L (xnewG (gG (3, D2)) (4, 0)) 32 n) := by
  intro d hd
  refine w263a_3 ?_
  refine ⟨⟨⟨by omega, by omega⟩, ⟨by decide, by decide⟩⟩, fun hn => ⟨⟨h.1, by omega, by decide, by omega⟩, ⟨⟨by decide, by decide⟩, ⟨by omega, by omega⟩, hd, by decide⟩, ⟨by decide, by decide, ?_, ?_, ?_, hd, by decide⟩, ?_⟩, fun hn => ⟨⟨hd, by decide, by decide, by decide⟩, ?_⟩⟩
  · rw [if_pos (by omega)]; exact h.1
  · rw [if_pos (by omega)]; show (0 : Int) + n ≤ 400; omega
  · rw [if_pos (by omega)]; omega
  · rw [if_pos (by omega)]
    exact ⟨_, ⟨cpf_c h.1, rb_cp⟩, rfl, xsc_sc, rfl, rfl⟩
  · subst hn
    exact ⟨_, ⟨fun _ _ _ => rfl, fun r => r⟩, rfl, rfl, rfl, rfl⟩
set_option maxRecDepth 8000 in
theorem w263b_3 {d : Nat} {I : XI} {L : XL} {D2 : (Nat → Nat) × (Nat → Nat) × ((Int → Int) × Nat)} {a : Nat} {post : XQ} {n : Int} (h : ((xrg n ∧ xrg (25 : Int)) ∧ ((¬ n = (25 : Int) → ((0 ≤ n ∧ n ≤ 100000 ∧ 1 ≤ 1 ∧ n.toNat ≤ 400) ∧ ((xrg (25 : Int) ∧ xrg n ∧ 1 ≤ d ∧ xwds [xi 0, xr (some 137), xi 0, xr (some 33)] ≤ 8) ∧ ((0 ≤ (0 : Int) ∧ 0 ≤ (0 : Int) ∧ 0 ≤ (if n < (25 : Int) then n else (25 : Int)) ∧ (0 : Int) + (if n < (25 : Int) then n else (25 : Int)) ≤ ((25 : Nat) : Int) ∧ (0 : Int) + (if n < (25 : Int) then n else (25 : Int)) ≤ (n.toNat : Int) ∧ 1 ≤ d ∧ xwds [] ≤ 8) ∧ post (some (xr (some 137))) (xsc (xsc I 137 (fun _ => 0)) 137 (xcp (I 33) (fun _ => 0) 0 0 (if n < (25 : Int) then n else (25 : Int)))) (xsc L 137 (fun _ => 0)) (xnewG (xnewG (xnewG (gG (3, D2)) (4, 0)) (101, a)) (101, n.toNat)))))) ∧ (n = (25 : Int) → ((1 ≤ d ∧ 1 ≤ 1 ∧ 25 ≤ 400 ∧ xwds [] ≤ 8) ∧ post (some (xr (some 137))) (xsc I 137 (I 33)) (xsc L 137 (fun _ => 0)) (xnewG (xnewG (xnewG (gG (3, D2)) (4, 0)) (101, a)) (101, 25))))))) : xR d 263 es_263 0 [xr (some 33), xi n, xt 0] [] I L (xnewG (xnewG (gG (3, D2)) (4, 0)) (101, a)) 1 400 post := xW_R (fun _ => false) 22 _ _ _ _ _ _ _ _ _ _ _ _ h
theorem c263b_3 {I : XI} {L : XL} {D2 : (Nat → Nat) × (Nat → Nat) × ((Int → Int) × Nat)} {a : Nat} {n : Int} (h : 0 ≤ n ∧ n ≤ 25) : xM 1 263 [xr (some 33), xi n] I L (xnewG (xnewG (gG (3, D2)) (4, 0)) (101, a)) (1, 400) (CPQ I L (xnewG (xnewG (gG (3, D2)) (4, 0)) (101, a)) 33 n) := by
  intro d hd
  refine w263b_3 ?_
  refine ⟨⟨⟨by omega, by omega⟩, ⟨by decide, by decide⟩⟩, fun hn => ⟨⟨h.1, by omega, by decide, by omega⟩, ⟨⟨by decide, by decide⟩, ⟨by omega, by omega⟩, hd, by decide⟩, ⟨by decide, by decide, ?_, ?_, ?_, hd, by decide⟩, ?_⟩, fun hn => ⟨⟨hd, by decide, by decide, by decide⟩, ?_⟩⟩
  · rw [if_pos (by omega)]; exact h.1
  · rw [if_pos (by omega)]; show (0 : Int) + n ≤ 25; omega
  · rw [if_pos (by omega)]; omega
  · rw [if_pos (by omega)]
    exact ⟨_, ⟨cpf_c h.1, rb_cp⟩, rfl, xsc_sc, rfl, rfl⟩
  · subst hn
    exact ⟨_, ⟨fun _ _ _ => rfl, fun r => r⟩, rfl, rfl, rfl, rfl⟩
set_option maxRecDepth 8000 in
theorem w263a_4 {d : Nat} {I : XI} {L : XL} {D2 : (Nat → Nat) × (Nat → Nat) × ((Int → Int) × Nat)} {post : XQ} {n : Int} (h : ((xrg n ∧ xrg (400 : Int)) ∧ ((¬ n = (400 : Int) → ((0 ≤ n ∧ n ≤ 100000 ∧ 1 ≤ 1 ∧ n.toNat ≤ 400) ∧ ((xrg (400 : Int) ∧ xrg n ∧ 1 ≤ d ∧ xwds [xi 0, xr (some 139), xi 0, xr (some 32)] ≤ 8) ∧ ((0 ≤ (0 : Int) ∧ 0 ≤ (0 : Int) ∧ 0 ≤ (if n < (400 : Int) then n else (400 : Int)) ∧ (0 : Int) + (if n < (400 : Int) then n else (400 : Int)) ≤ ((400 : Nat) : Int) ∧ (0 : Int) + (if n < (400 : Int) then n else (400 : Int)) ≤ (n.toNat : Int) ∧ 1 ≤ d ∧ xwds [] ≤ 8) ∧ post (some (xr (some 139))) (xsc (xsc I 139 (fun _ => 0)) 139 (xcp (I 32) (fun _ => 0) 0 0 (if n < (400 : Int) then n else (400 : Int)))) (xsc L 139 (fun _ => 0)) (xnewG (xnewG (gG (4, D2)) (4, 0)) (101, n.toNat)))))) ∧ (n = (400 : Int) → ((1 ≤ d ∧ 1 ≤ 1 ∧ 400 ≤ 400 ∧ xwds [] ≤ 8) ∧ post (some (xr (some 139))) (xsc I 139 (I 32)) (xsc L 139 (fun _ => 0)) (xnewG (xnewG (gG (4, D2)) (4, 0)) (101, 400))))))) : xR d 263 es_263 0 [xr (some 32), xi n, xt 0] [] I L (xnewG (gG (4, D2)) (4, 0)) 1 400 post := xW_R (fun _ => false) 22 _ _ _ _ _ _ _ _ _ _ _ _ h
theorem c263a_4 {I : XI} {L : XL} {D2 : (Nat → Nat) × (Nat → Nat) × ((Int → Int) × Nat)} {n : Int} (h : 0 ≤ n ∧ n ≤ 400) : xM 1 263 [xr (some 32), xi n] I L (xnewG (gG (4, D2)) (4, 0)) (1, 400) (CPQ I L (xnewG (gG (4, D2)) (4, 0)) 32 n) := by
  intro d hd
  refine w263a_4 ?_
  refine ⟨⟨⟨by omega, by omega⟩, ⟨by decide, by decide⟩⟩, fun hn => ⟨⟨h.1, by omega, by decide, by omega⟩, ⟨⟨by decide, by decide⟩, ⟨by omega, by omega⟩, hd, by decide⟩, ⟨by decide, by decide, ?_, ?_, ?_, hd, by decide⟩, ?_⟩, fun hn => ⟨⟨hd, by decide, by decide, by decide⟩, ?_⟩⟩
  · rw [if_pos (by omega)]; exact h.1
  · rw [if_pos (by omega)]; show (0 : Int) + n ≤ 400; omega
  · rw [if_pos (by omega)]; omega
  · rw [if_pos (by omega)]
    exact ⟨_, ⟨cpf_c h.1, rb_cp⟩, rfl, xsc_sc, rfl, rfl⟩
  · subst hn
    exact ⟨_, ⟨fun _ _ _ => rfl, fun r => r⟩, rfl, rfl, rfl, rfl⟩
set_option maxRecDepth 8000 in
theorem w263b_4 {d : Nat} {I : XI} {L : XL} {D2 : (Nat → Nat) × (Nat → Nat) × ((Int → Int) × Nat)} {a : Nat} {post : XQ} {n : Int} (h : ((xrg n ∧ xrg (25 : Int)) ∧ ((¬ n = (25 : Int) → ((0 ≤ n ∧ n ≤ 100000 ∧ 1 ≤ 1 ∧ n.toNat ≤ 400) ∧ ((xrg (25 : Int) ∧ xrg n ∧ 1 ≤ d ∧ xwds [xi 0, xr (some 140), xi 0, xr (some 33)] ≤ 8) ∧ ((0 ≤ (0 : Int) ∧ 0 ≤ (0 : Int) ∧ 0 ≤ (if n < (25 : Int) then n else (25 : Int)) ∧ (0 : Int) + (if n < (25 : Int) then n else (25 : Int)) ≤ ((25 : Nat) : Int) ∧ (0 : Int) + (if n < (25 : Int) then n else (25 : Int)) ≤ (n.toNat : Int) ∧ 1 ≤ d ∧ xwds [] ≤ 8) ∧ post (some (xr (some 140))) (xsc (xsc I 140 (fun _ => 0)) 140 (xcp (I 33) (fun _ => 0) 0 0 (if n < (25 : Int) then n else (25 : Int)))) (xsc L 140 (fun _ => 0)) (xnewG (xnewG (xnewG (gG (4, D2)) (4, 0)) (101, a)) (101, n.toNat)))))) ∧ (n = (25 : Int) → ((1 ≤ d ∧ 1 ≤ 1 ∧ 25 ≤ 400 ∧ xwds [] ≤ 8) ∧ post (some (xr (some 140))) (xsc I 140 (I 33)) (xsc L 140 (fun _ => 0)) (xnewG (xnewG (xnewG (gG (4, D2)) (4, 0)) (101, a)) (101, 25))))))) : xR d 263 es_263 0 [xr (some 33), xi n, xt 0] [] I L (xnewG (xnewG (gG (4, D2)) (4, 0)) (101, a)) 1 400 post := xW_R (fun _ => false) 22 _ _ _ _ _ _ _ _ _ _ _ _ h
theorem c263b_4 {I : XI} {L : XL} {D2 : (Nat → Nat) × (Nat → Nat) × ((Int → Int) × Nat)} {a : Nat} {n : Int} (h : 0 ≤ n ∧ n ≤ 25) : xM 1 263 [xr (some 33), xi n] I L (xnewG (xnewG (gG (4, D2)) (4, 0)) (101, a)) (1, 400) (CPQ I L (xnewG (xnewG (gG (4, D2)) (4, 0)) (101, a)) 33 n) := by
  intro d hd
  refine w263b_4 ?_
  refine ⟨⟨⟨by omega, by omega⟩, ⟨by decide, by decide⟩⟩, fun hn => ⟨⟨h.1, by omega, by decide, by omega⟩, ⟨⟨by decide, by decide⟩, ⟨by omega, by omega⟩, hd, by decide⟩, ⟨by decide, by decide, ?_, ?_, ?_, hd, by decide⟩, ?_⟩, fun hn => ⟨⟨hd, by decide, by decide, by decide⟩, ?_⟩⟩
  · rw [if_pos (by omega)]; exact h.1
  · rw [if_pos (by omega)]; show (0 : Int) + n ≤ 25; omega
  · rw [if_pos (by omega)]; omega
  · rw [if_pos (by omega)]
    exact ⟨_, ⟨cpf_c h.1, rb_cp⟩, rfl, xsc_sc, rfl, rfl⟩
  · subst hn
    exact ⟨_, ⟨fun _ _ _ => rfl, fun r => r⟩, rfl, rfl, rfl, rfl⟩
set_option maxRecDepth 8000 in
theorem w263a_5 {d : Nat} {I : XI} {L : XL} {D2 : (Nat → Nat) × (Nat → Nat) × ((Int → Int) × Nat)} {post : XQ} {n : Int} (h : ((xrg n ∧ xrg (400 : Int)) ∧ ((¬ n = (400 : Int) → ((0 ≤ n ∧ n ≤ 100000 ∧ 1 ≤ 1 ∧ n.toNat ≤ 400) ∧ ((xrg (400 : Int) ∧ xrg n ∧ 1 ≤ d ∧ xwds [xi 0, xr (some 142), xi 0, xr (some 32)] ≤ 8) ∧ ((0 ≤ (0 : Int) ∧ 0 ≤ (0 : Int) ∧ 0 ≤ (if n < (400 : Int) then n else (400 : Int)) ∧ (0 : Int) + (if n < (400 : Int) then n else (400 : Int)) ≤ ((400 : Nat) : Int) ∧ (0 : Int) + (if n < (400 : Int) then n else (400 : Int)) ≤ (n.toNat : Int) ∧ 1 ≤ d ∧ xwds [] ≤ 8) ∧ post (some (xr (some 142))) (xsc (xsc I 142 (fun _ => 0)) 142 (xcp (I 32) (fun _ => 0) 0 0 (if n < (400 : Int) then n else (400 : Int)))) (xsc L 142 (fun _ => 0)) (xnewG (xnewG (gG (5, D2)) (4, 0)) (101, n.toNat)))))) ∧ (n = (400 : Int) → ((1 ≤ d ∧ 1 ≤ 1 ∧ 400 ≤ 400 ∧ xwds [] ≤ 8) ∧ post (some (xr (some 142))) (xsc I 142 (I 32)) (xsc L 142 (fun _ => 0)) (xnewG (xnewG (gG (5, D2)) (4, 0)) (101, 400))))))) : xR d 263 es_263 0 [xr (some 32), xi n, xt 0] [] I L (xnewG (gG (5, D2)) (4, 0)) 1 400 post := xW_R (fun _ => false) 22 _ _ _ _ _ _ _ _ _ _ _ _ h
theorem c263a_5 {I : XI} {L : XL} {D2 : (Nat → Nat) × (Nat → Nat) × ((Int → Int) × Nat)} {n : Int} (h : 0 ≤ n ∧ n ≤ 400) : xM 1 263 [xr (some 32), xi n] I L (xnewG (gG (5, D2)) (4, 0)) (1, 400) (CPQ I L (xnewG (gG (5, D2)) (4, 0)) 32 n) := by
  intro d hd
  refine w263a_5 ?_
  refine ⟨⟨⟨by omega, by omega⟩, ⟨by decide, by decide⟩⟩, fun hn => ⟨⟨h.1, by omega, by decide, by omega⟩, ⟨⟨by decide, by decide⟩, ⟨by omega, by omega⟩, hd, by decide⟩, ⟨by decide, by decide, ?_, ?_, ?_, hd, by decide⟩, ?_⟩, fun hn => ⟨⟨hd, by decide, by decide, by decide⟩, ?_⟩⟩
  · rw [if_pos (by omega)]; exact h.1
  · rw [if_pos (by omega)]; show (0 : Int) + n ≤ 400; omega
  · rw [if_pos (by omega)]; omega
  · rw [if_pos (by omega)]
    exact ⟨_, ⟨cpf_c h.1, rb_cp⟩, rfl, xsc_sc, rfl, rfl⟩
  · subst hn
    exact ⟨_, ⟨fun _ _ _ => rfl, fun r => r⟩, rfl, rfl, rfl, rfl⟩
set_option maxRecDepth 8000 in
theorem w263b_5 {d : Nat} {I : XI} {L : XL} {D2 : (Nat → Nat) × (Nat → Nat) × ((Int → Int) × Nat)} {a : Nat} {post : XQ} {n : Int} (h : ((xrg n ∧ xrg (25 : Int)) ∧ ((¬ n = (25 : Int) → ((0 ≤ n ∧ n ≤ 100000 ∧ 1 ≤ 1 ∧ n.toNat ≤ 400) ∧ ((xrg (25 : Int) ∧ xrg n ∧ 1 ≤ d ∧ xwds [xi 0, xr (some 143), xi 0, xr (some 33)] ≤ 8) ∧ ((0 ≤ (0 : Int) ∧ 0 ≤ (0 : Int) ∧ 0 ≤ (if n < (25 : Int) then n else (25 : Int)) ∧ (0 : Int) + (if n < (25 : Int) then n else (25 : Int)) ≤ ((25 : Nat) : Int) ∧ (0 : Int) + (if n < (25 : Int) then n else (25 : Int)) ≤ (n.toNat : Int) ∧ 1 ≤ d ∧ xwds [] ≤ 8) ∧ post (some (xr (some 143))) (xsc (xsc I 143 (fun _ => 0)) 143 (xcp (I 33) (fun _ => 0) 0 0 (if n < (25 : Int) then n else (25 : Int)))) (xsc L 143 (fun _ => 0)) (xnewG (xnewG (xnewG (gG (5, D2)) (4, 0)) (101, a)) (101, n.toNat)))))) ∧ (n = (25 : Int) → ((1 ≤ d ∧ 1 ≤ 1 ∧ 25 ≤ 400 ∧ xwds [] ≤ 8) ∧ post (some (xr (some 143))) (xsc I 143 (I 33)) (xsc L 143 (fun _ => 0)) (xnewG (xnewG (xnewG (gG (5, D2)) (4, 0)) (101, a)) (101, 25))))))) : xR d 263 es_263 0 [xr (some 33), xi n, xt 0] [] I L (xnewG (xnewG (gG (5, D2)) (4, 0)) (101, a)) 1 400 post := xW_R (fun _ => false) 22 _ _ _ _ _ _ _ _ _ _ _ _ h
theorem c263b_5 {I : XI} {L : XL} {D2 : (Nat → Nat) × (Nat → Nat) × ((Int → Int) × Nat)} {a : Nat} {n : Int} (h : 0 ≤ n ∧ n ≤ 25) : xM 1 263 [xr (some 33), xi n] I L (xnewG (xnewG (gG (5, D2)) (4, 0)) (101, a)) (1, 400) (CPQ I L (xnewG (xnewG (gG (5, D2)) (4, 0)) (101, a)) 33 n) := by
  intro d hd
  refine w263b_5 ?_
  refine ⟨⟨⟨by omega, by omega⟩, ⟨by decide, by decide⟩⟩, fun hn => ⟨⟨h.1, by omega, by decide, by omega⟩, ⟨⟨by decide, by decide⟩, ⟨by omega, by omega⟩, hd, by decide⟩, ⟨by decide, by decide, ?_, ?_, ?_, hd, by decide⟩, ?_⟩, fun hn => ⟨⟨hd, by decide, by decide, by decide⟩, ?_⟩⟩
  · rw [if_pos (by omega)]; exact h.1
  · rw [if_pos (by omega)]; show (0 : Int) + n ≤ 25; omega
  · rw [if_pos (by omega)]; omega
  · rw [if_pos (by omega)]
    exact ⟨_, ⟨cpf_c h.1, rb_cp⟩, rfl, xsc_sc, rfl, rfl⟩
  · subst hn
    exact ⟨_, ⟨fun _ _ _ => rfl, fun r => r⟩, rfl, rfl, rfl, rfl⟩
set_option maxRecDepth 8000 in
theorem t42a_0 {d : Nat} {I : XI} {L : XL} {D2 : (Nat → Nat) × (Nat → Nat) × ((Int → Int) × Nat)} {post : XQ} {i0 : Int} (h : (1 ≤ 3 ∧ 2 ≤ 802) ∧ xR d 42 es_42 33 [xr (some 31), xi i0] [xi (I 31 3), xr (some 32), xr (some 126), xr (some 126)] (xsc I 126 (fun _ => 0)) (xsc L 126 (fun _ => 0)) (xnewG (gG (0, D2)) (4, 0)) 2 800 post) : xR d 42 es_42 27 [xr (some 31), xi i0] [] I L (gG (0, D2)) 3 802 post := xW_R (fun k => Nat.beq k 33) 6 _ _ _ _ _ _ _ _ _ _ _ _ h
set_option maxRecDepth 8000 in
theorem t42b_0 {d : Nat} {I : XI} {L : XL} {D2 : (Nat → Nat) × (Nat → Nat) × ((Int → Int) × Nat)} {a : Nat} {post : XQ} {i0 : Int} (h : xR d 42 es_42 41 [xr (some 31), xi i0] [xi (2 * i0 + 3), xr (some 33), xr (some 127), xr (some 126), xr (some 126)] I L (xnewG (xnewG (gG (0, D2)) (4, 0)) (101, a)) 1 400 post) : xR d 42 es_42 34 [xr (some 31), xi i0] [xr (some 127), xr (some 126), xr (some 126)] I L (xnewG (xnewG (gG (0, D2)) (4, 0)) (101, a)) 1 400 post := xW_R (fun k => Nat.beq k 41) 7 _ _ _ _ _ _ _ _ _ _ _ _ h
set_option maxRecDepth 8000 in
theorem w37_0 {d : Nat} {I : XI} {L : XL} {D2 : (Nat → Nat) × (Nat → Nat) × ((Int → Int) × Nat)} {a b : Nat} {post : XQ} (h : (1 ≤ d ∧ xwds [] ≤ 8) ∧ post none I L ((xwr (xwr (gN3 0 D2 a b).1 126 0 (some 127)) 126 1 (some 128), (gN3 0 D2 a b).2) : XG)) : xR d 37 es_37 0 [xr (some 126), xr (some 127), xr (some 128)] [] I L (gN3 0 D2 a b) 0 0 post := xW_R (fun _ => false) 9 _ _ _ _ _ _ _ _ _ _ _ _ h
theorem c37_0 {I : XI} {L : XL} {D2 : (Nat → Nat) × (Nat → Nat) × ((Int → Int) × Nat)} {a b : Nat} : xM 1 37 [xr (some 126), xr (some 127), xr (some 128)] I L (gN3 0 D2 a b) (0, 0) (xD none I L ((xwr (xwr (gN3 0 D2 a b).1 126 0 (some 127)) 126 1 (some 128), (gN3 0 D2 a b).2) : XG)) := by
  intro d hd
  exact w37_0 ⟨⟨hd, by decide⟩, xD_in⟩
set_option maxRecDepth 8000 in
theorem t42c_0 {d : Nat} {I : XI} {L : XL} {D2 : (Nat → Nat) × (Nat → Nat) × ((Int → Int) × Nat)} {a b : Nat} {post : XQ} {i0 : Int} (h : post (some (xr (some 126))) I L ((xwr (xwr (gN3 0 D2 a b).1 126 0 (some 127)) 126 1 (some 128), (gN3 0 D2 a b).2) : XG)) : xR d 42 es_42 43 [xr (some 31), xi i0] [xr (some 126)] I L ((xwr (xwr (gN3 0 D2 a b).1 126 0 (some 127)) 126 1 (some 128), (gN3 0 D2 a b).2) : XG) 0 0 post := xW_R (fun _ => false) 1 _ _ _ _ _ _ _ _ _ _ _ _ h
set_option maxRecDepth 8000 in
theorem t42a_1 {d : Nat} {I : XI} {L : XL} {D2 : (Nat → Nat) × (Nat → Nat) × ((Int → Int) × Nat)} {post : XQ} {i0 : Int} (h : (1 ≤ 3 ∧ 2 ≤ 802) ∧ xR d 42 es_42 33 [xr (some 31), xi i0] [xi (I 31 3), xr (some 32), xr (some 129), xr (some 129)] (xsc I 129 (fun _ => 0)) (xsc L 129 (fun _ => 0)) (xnewG (gG (1, D2)) (4, 0)) 2 800 post) : xR d 42 es_42 27 [xr (some 31), xi i0] [] I L (gG (1, D2)) 3 802 post := xW_R (fun k => Nat.beq k 33) 6 _ _ _ _ _ _ _ _ _ _ _ _ h
set_option maxRecDepth 8000 in
theorem t42b_1 {d : Nat} {I : XI} {L : XL} {D2 : (Nat → Nat) × (Nat → Nat) × ((Int → Int) × Nat)} {a : Nat} {post : XQ} {i0 : Int} (h : xR d 42 es_42 41 [xr (some 31), xi i0] [xi (2 * i0 + 3), xr (some 33), xr (some 130), xr (some 129), xr (some 129)] I L (xnewG (xnewG (gG (1, D2)) (4, 0)) (101, a)) 1 400 post) : xR d 42 es_42 34 [xr (some 31), xi i0] [xr (some 130), xr (some 129), xr (some 129)] I L (xnewG (xnewG (gG (1, D2)) (4, 0)) (101, a)) 1 400 post := xW_R (fun k => Nat.beq k 41) 7 _ _ _ _ _ _ _ _ _ _ _ _ h
set_option maxRecDepth 8000 in
theorem w37_1 {d : Nat} {I : XI} {L : XL} {D2 : (Nat → Nat) × (Nat → Nat) × ((Int → Int) × Nat)} {a b : Nat} {post : XQ} (h : (1 ≤ d ∧ xwds [] ≤ 8) ∧ post none I L ((xwr (xwr (gN3 1 D2 a b).1 129 0 (some 130)) 129 1 (some 131), (gN3 1 D2 a b).2) : XG)) : xR d 37 es_37 0 [xr (some 129), xr (some 130), xr (some 131)] [] I L (gN3 1 D2 a b) 0 0 post := xW_R (fun _ => false) 9 _ _ _ _ _ _ _ _ _ _ _ _ h
theorem c37_1 {I : XI} {L : XL} {D2 : (Nat → Nat) × (Nat → Nat) × ((Int → Int) × Nat)} {a b : Nat} : xM 1 37 [xr (some 129), xr (some 130), xr (some 131)] I L (gN3 1 D2 a b) (0, 0) (xD none I L ((xwr (xwr (gN3 1 D2 a b).1 129 0 (some 130)) 129 1 (some 131), (gN3 1 D2 a b).2) : XG)) := by
  intro d hd
  exact w37_1 ⟨⟨hd, by decide⟩, xD_in⟩
set_option maxRecDepth 8000 in
theorem t42c_1 {d : Nat} {I : XI} {L : XL} {D2 : (Nat → Nat) × (Nat → Nat) × ((Int → Int) × Nat)} {a b : Nat} {post : XQ} {i0 : Int} (h : post (some (xr (some 129))) I L ((xwr (xwr (gN3 1 D2 a b).1 129 0 (some 130)) 129 1 (some 131), (gN3 1 D2 a b).2) : XG)) : xR d 42 es_42 43 [xr (some 31), xi i0] [xr (some 129)] I L ((xwr (xwr (gN3 1 D2 a b).1 129 0 (some 130)) 129 1 (some 131), (gN3 1 D2 a b).2) : XG) 0 0 post := xW_R (fun _ => false) 1 _ _ _ _ _ _ _ _ _ _ _ _ h
set_option maxRecDepth 8000 in
theorem t42a_2 {d : Nat} {I : XI} {L : XL} {D2 : (Nat → Nat) × (Nat → Nat) × ((Int → Int) × Nat)} {post : XQ} {i0 : Int} (h : (1 ≤ 3 ∧ 2 ≤ 802) ∧ xR d 42 es_42 33 [xr (some 31), xi i0] [xi (I 31 3), xr (some 32), xr (some 132), xr (some 132)] (xsc I 132 (fun _ => 0)) (xsc L 132 (fun _ => 0)) (xnewG (gG (2, D2)) (4, 0)) 2 800 post) : xR d 42 es_42 27 [xr (some 31), xi i0] [] I L (gG (2, D2)) 3 802 post := xW_R (fun k => Nat.beq k 33) 6 _ _ _ _ _ _ _ _ _ _ _ _ h
set_option maxRecDepth 8000 in
theorem t42b_2 {d : Nat} {I : XI} {L : XL} {D2 : (Nat → Nat) × (Nat → Nat) × ((Int → Int) × Nat)} {a : Nat} {post : XQ} {i0 : Int} (h : xR d 42 es_42 41 [xr (some 31), xi i0] [xi (2 * i0 + 3), xr (some 33), xr (some 133), xr (some 132), xr (some 132)] I L (xnewG (xnewG (gG (2, D2)) (4, 0)) (101, a)) 1 400 post) : xR d 42 es_42 34 [xr (some 31), xi i0] [xr (some 133), xr (some 132), xr (some 132)] I L (xnewG (xnewG (gG (2, D2)) (4, 0)) (101, a)) 1 400 post := xW_R (fun k => Nat.beq k 41) 7 _ _ _ _ _ _ _ _ _ _ _ _ h
set_option maxRecDepth 8000 in
theorem w37_2 {d : Nat} {I : XI} {L : XL} {D2 : (Nat → Nat) × (Nat → Nat) × ((Int → Int) × Nat)} {a b : Nat} {post : XQ} (h : (1 ≤ d ∧ xwds [] ≤ 8) ∧ post none I L ((xwr (xwr (gN3 2 D2 a b).1 132 0 (some 133)) 132 1 (some 134), (gN3 2 D2 a b).2) : XG)) : xR d 37 es_37 0 [xr (some 132), xr (some 133), xr (some 134)] [] I L (gN3 2 D2 a b) 0 0 post := xW_R (fun _ => false) 9 _ _ _ _ _ _ _ _ _ _ _ _ h
theorem c37_2 {I : XI} {L : XL} {D2 : (Nat → Nat) × (Nat → Nat) × ((Int → Int) × Nat)} {a b : Nat} : xM 1 37 [xr (some 132), xr (some 133), xr (some 134)] I L (gN3 2 D2 a b) (0, 0) (xD none I L ((xwr (xwr (gN3 2 D2 a b).1 132 0 (some 133)) 132 1 (some 134), (gN3 2 D2 a b).2) : XG)) := by
  intro d hd
  exact w37_2 ⟨⟨hd, by decide⟩, xD_in⟩
set_option maxRecDepth 8000 in
theorem t42c_2 {d : Nat} {I : XI} {L : XL} {D2 : (Nat → Nat) × (Nat → Nat) × ((Int → Int) × Nat)} {a b : Nat} {post : XQ} {i0 : Int} (h : post (some (xr (some 132))) I L ((xwr (xwr (gN3 2 D2 a b).1 132 0 (some 133)) 132 1 (some 134), (gN3 2 D2 a b).2) : XG)) : xR d 42 es_42 43 [xr (some 31), xi i0] [xr (some 132)] I L ((xwr (xwr (gN3 2 D2 a b).1 132 0 (some 133)) 132 1 (some 134), (gN3 2 D2 a b).2) : XG) 0 0 post := xW_R (fun _ => false) 1 _ _ _ _ _ _ _ _ _ _ _ _ h
set_option maxRecDepth 8000 in
theorem t42a_3 {d : Nat} {I : XI} {L : XL} {D2 : (Nat → Nat) × (Nat → Nat) × ((Int → Int) × Nat)} {post : XQ} {i0 : Int} (h : (1 ≤ 3 ∧ 2 ≤ 802) ∧ xR d 42 es_42 33 [xr (some 31), xi i0] [xi (I 31 3), xr (some 32), xr (some 135), xr (some 135)] (xsc I 135 (fun _ => 0)) (xsc L 135 (fun _ => 0)) (xnewG (gG (3, D2)) (4, 0)) 2 800 post) : xR d 42 es_42 27 [xr (some 31), xi i0] [] I L (gG (3, D2)) 3 802 post := xW_R (fun k => Nat.beq k 33) 6 _ _ _ _ _ _ _ _ _ _ _ _ h
set_option maxRecDepth 8000 in
theorem t42b_3 {d : Nat} {I : XI} {L : XL} {D2 : (Nat → Nat) × (Nat → Nat) × ((Int → Int) × Nat)} {a : Nat} {post : XQ} {i0 : Int} (h : xR d 42 es_42 41 [xr (some 31), xi i0] [xi (2 * i0 + 3), xr (some 33), xr (some 136), xr (some 135), xr (some 135)] I L (xnewG (xnewG (gG (3, D2)) (4, 0)) (101, a)) 1 400 post) : xR d 42 es_42 34 [xr (some 31), xi i0] [xr (some 136), xr (some 135), xr (some 135)] I L (xnewG (xnewG (gG (3, D2)) (4, 0)) (101, a)) 1 400 post := xW_R (fun k => Nat.beq k 41) 7 _ _ _ _ _ _ _ _ _ _ _ _ h
set_option maxRecDepth 8000 in
theorem w37_3 {d : Nat} {I : XI} {L : XL} {D2 : (Nat → Nat) × (Nat → Nat) × ((Int → Int) × Nat)} {a b : Nat} {post : XQ} (h : (1 ≤ d ∧ xwds [] ≤ 8) ∧ post none I L ((xwr (xwr (gN3 3 D2 a b).1 135 0 (some 136)) 135 1 (some 137), (gN3 3 D2 a b).2) : XG)) : xR d 37 es_37 0 [xr (some 135), xr (some 136), xr (some 137)] [] I L (gN3 3 D2 a b) 0 0 post := xW_R (fun _ => false) 9 _ _ _ _ _ _ _ _ _ _ _ _ h
theorem c37_3 {I : XI} {L : XL} {D2 : (Nat → Nat) × (Nat → Nat) × ((Int → Int) × Nat)} {a b : Nat} : xM 1 37 [xr (some 135), xr (some 136), xr (some 137)] I L (gN3 3 D2 a b) (0, 0) (xD none I L ((xwr (xwr (gN3 3 D2 a b).1 135 0 (some 136)) 135 1 (some 137), (gN3 3 D2 a b).2) : XG)) := by
  intro d hd
  exact w37_3 ⟨⟨hd, by decide⟩, xD_in⟩
set_option maxRecDepth 8000 in
theorem t42c_3 {d : Nat} {I : XI} {L : XL} {D2 : (Nat → Nat) × (Nat → Nat) × ((Int → Int) × Nat)} {a b : Nat} {post : XQ} {i0 : Int} (h : post (some (xr (some 135))) I L ((xwr (xwr (gN3 3 D2 a b).1 135 0 (some 136)) 135 1 (some 137), (gN3 3 D2 a b).2) : XG)) : xR d 42 es_42 43 [xr (some 31), xi i0] [xr (some 135)] I L ((xwr (xwr (gN3 3 D2 a b).1 135 0 (some 136)) 135 1 (some 137), (gN3 3 D2 a b).2) : XG) 0 0 post := xW_R (fun _ => false) 1 _ _ _ _ _ _ _ _ _ _ _ _ h
set_option maxRecDepth 8000 in
theorem t42a_4 {d : Nat} {I : XI} {L : XL} {D2 : (Nat → Nat) × (Nat → Nat) × ((Int → Int) × Nat)} {post : XQ} {i0 : Int} (h : (1 ≤ 3 ∧ 2 ≤ 802) ∧ xR d 42 es_42 33 [xr (some 31), xi i0] [xi (I 31 3), xr (some 32), xr (some 138), xr (some 138)] (xsc I 138 (fun _ => 0)) (xsc L 138 (fun _ => 0)) (xnewG (gG (4, D2)) (4, 0)) 2 800 post) : xR d 42 es_42 27 [xr (some 31), xi i0] [] I L (gG (4, D2)) 3 802 post := xW_R (fun k => Nat.beq k 33) 6 _ _ _ _ _ _ _ _ _ _ _ _ h
set_option maxRecDepth 8000 in
theorem t42b_4 {d : Nat} {I : XI} {L : XL} {D2 : (Nat → Nat) × (Nat → Nat) × ((Int → Int) × Nat)} {a : Nat} {post : XQ} {i0 : Int} (h : xR d 42 es_42 41 [xr (some 31), xi i0] [xi (2 * i0 + 3), xr (some 33), xr (some 139), xr (some 138), xr (some 138)] I L (xnewG (xnewG (gG (4, D2)) (4, 0)) (101, a)) 1 400 post) : xR d 42 es_42 34 [xr (some 31), xi i0] [xr (some 139), xr (some 138), xr (some 138)] I L (xnewG (xnewG (gG (4, D2)) (4, 0)) (101, a)) 1 400 post := xW_R (fun k => Nat.beq k 41) 7 _ _ _ _ _ _ _ _ _ _ _ _ h
set_option maxRecDepth 8000 in
theorem w37_4 {d : Nat} {I : XI} {L : XL} {D2 : (Nat → Nat) × (Nat → Nat) × ((Int → Int) × Nat)} {a b : Nat} {post : XQ} (h : (1 ≤ d ∧ xwds [] ≤ 8) ∧ post none I L ((xwr (xwr (gN3 4 D2 a b).1 138 0 (some 139)) 138 1 (some 140), (gN3 4 D2 a b).2) : XG)) : xR d 37 es_37 0 [xr (some 138), xr (some 139), xr (some 140)] [] I L (gN3 4 D2 a b) 0 0 post := xW_R (fun _ => false) 9 _ _ _ _ _ _ _ _ _ _ _ _ h
theorem c37_4 {I : XI} {L : XL} {D2 : (Nat → Nat) × (Nat → Nat) × ((Int → Int) × Nat)} {a b : Nat} : xM 1 37 [xr (some 138), xr (some 139), xr (some 140)] I L (gN3 4 D2 a b) (0, 0) (xD none I L ((xwr (xwr (gN3 4 D2 a b).1 138 0 (some 139)) 138 1 (some 140), (gN3 4 D2 a b).2) : XG)) := by
  intro d hd
  exact w37_4 ⟨⟨hd, by decide⟩, xD_in⟩
set_option maxRecDepth 8000 in
theorem t42c_4 {d : Nat} {I : XI} {L : XL} {D2 : (Nat → Nat) × (Nat → Nat) × ((Int → Int) × Nat)} {a b : Nat} {post : XQ} {i0 : Int} (h : post (some (xr (some 138))) I L ((xwr (xwr (gN3 4 D2 a b).1 138 0 (some 139)) 138 1 (some 140), (gN3 4 D2 a b).2) : XG)) : xR d 42 es_42 43 [xr (some 31), xi i0] [xr (some 138)] I L ((xwr (xwr (gN3 4 D2 a b).1 138 0 (some 139)) 138 1 (some 140), (gN3 4 D2 a b).2) : XG) 0 0 post := xW_R (fun _ => false) 1 _ _ _ _ _ _ _ _ _ _ _ _ h
set_option maxRecDepth 8000 in
theorem t42a_5 {d : Nat} {I : XI} {L : XL} {D2 : (Nat → Nat) × (Nat → Nat) × ((Int → Int) × Nat)} {post : XQ} {i0 : Int} (h : (1 ≤ 3 ∧ 2 ≤ 802) ∧ xR d 42 es_42 33 [xr (some 31), xi i0] [xi (I 31 3), xr (some 32), xr (some 141), xr (some 141)] (xsc I 141 (fun _ => 0)) (xsc L 141 (fun _ => 0)) (xnewG (gG (5, D2)) (4, 0)) 2 800 post) : xR d 42 es_42 27 [xr (some 31), xi i0] [] I L (gG (5, D2)) 3 802 post := xW_R (fun k => Nat.beq k 33) 6 _ _ _ _ _ _ _ _ _ _ _ _ h
set_option maxRecDepth 8000 in
theorem t42b_5 {d : Nat} {I : XI} {L : XL} {D2 : (Nat → Nat) × (Nat → Nat) × ((Int → Int) × Nat)} {a : Nat} {post : XQ} {i0 : Int} (h : xR d 42 es_42 41 [xr (some 31), xi i0] [xi (2 * i0 + 3), xr (some 33), xr (some 142), xr (some 141), xr (some 141)] I L (xnewG (xnewG (gG (5, D2)) (4, 0)) (101, a)) 1 400 post) : xR d 42 es_42 34 [xr (some 31), xi i0] [xr (some 142), xr (some 141), xr (some 141)] I L (xnewG (xnewG (gG (5, D2)) (4, 0)) (101, a)) 1 400 post := xW_R (fun k => Nat.beq k 41) 7 _ _ _ _ _ _ _ _ _ _ _ _ h
set_option maxRecDepth 8000 in
theorem w37_5 {d : Nat} {I : XI} {L : XL} {D2 : (Nat → Nat) × (Nat → Nat) × ((Int → Int) × Nat)} {a b : Nat} {post : XQ} (h : (1 ≤ d ∧ xwds [] ≤ 8) ∧ post none I L ((xwr (xwr (gN3 5 D2 a b).1 141 0 (some 142)) 141 1 (some 143), (gN3 5 D2 a b).2) : XG)) : xR d 37 es_37 0 [xr (some 141), xr (some 142), xr (some 143)] [] I L (gN3 5 D2 a b) 0 0 post := xW_R (fun _ => false) 9 _ _ _ _ _ _ _ _ _ _ _ _ h
theorem c37_5 {I : XI} {L : XL} {D2 : (Nat → Nat) × (Nat → Nat) × ((Int → Int) × Nat)} {a b : Nat} : xM 1 37 [xr (some 141), xr (some 142), xr (some 143)] I L (gN3 5 D2 a b) (0, 0) (xD none I L ((xwr (xwr (gN3 5 D2 a b).1 141 0 (some 142)) 141 1 (some 143), (gN3 5 D2 a b).2) : XG)) := by
  intro d hd
  exact w37_5 ⟨⟨hd, by decide⟩, xD_in⟩
set_option maxRecDepth 8000 in
theorem t42c_5 {d : Nat} {I : XI} {L : XL} {D2 : (Nat → Nat) × (Nat → Nat) × ((Int → Int) × Nat)} {a b : Nat} {post : XQ} {i0 : Int} (h : post (some (xr (some 141))) I L ((xwr (xwr (gN3 5 D2 a b).1 141 0 (some 142)) 141 1 (some 143), (gN3 5 D2 a b).2) : XG)) : xR d 42 es_42 43 [xr (some 31), xi i0] [xr (some 141)] I L ((xwr (xwr (gN3 5 D2 a b).1 141 0 (some 142)) 141 1 (some 143), (gN3 5 D2 a b).2) : XG) 0 0 post := xW_R (fun _ => false) 1 _ _ _ _ _ _ _ _ _ _ _ _ h

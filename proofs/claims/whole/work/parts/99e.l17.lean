theorem pb_out {R P0 : Int → Int} {j : Int} (h0 : 71 ≤ j) (h1 : j < 102) : pbeg (srow R P0 102) j = 0 := by
  unfold pbeg srow
  rw [if_neg (by omega), if_neg (by omega), if_neg (by omega), if_pos (by omega), if_neg (by omega)]
set_option maxRecDepth 8000 in
theorem sg_264_96 {d : Nat} {I : XI} {L : XL} {D : GD} {post : XQ} {c s : Nat} {u3 : Int} (h : xR d 264 es_264 97 [xt 2, xr (some 0), xr (some 101), xi u3] [xr (some 0)] I L (gG D) c s post) : xR d 264 es_264 96 [xt 2, xr (some 0), xr (some 101), xi u3] [] I L (gG D) c s post := xW_R (fun k => Nat.beq k 2 || Nat.beq k 6 || Nat.beq k 10 || Nat.beq k 48 || Nat.beq k 75 || Nat.beq k 85 || Nat.beq k 92 || Nat.beq k 97 || Nat.beq k 99 || Nat.beq k 104 || Nat.beq k 106 || Nat.beq k 116 || Nat.beq k 123 || Nat.beq k 138 || Nat.beq k 150 || Nat.beq k 165 || Nat.beq k 177 || Nat.beq k 182 || Nat.beq k 184 || Nat.beq k 199 || Nat.beq k 211 || Nat.beq k 221 || Nat.beq k 228 || Nat.beq k 243 || Nat.beq k 255 || Nat.beq k 265 || Nat.beq k 272 || Nat.beq k 277 || Nat.beq k 279 || Nat.beq k 299 || Nat.beq k 316 || Nat.beq k 321 || Nat.beq k 323 || Nat.beq k 328 || Nat.beq k 330 || Nat.beq k 345 || Nat.beq k 357 || Nat.beq k 367 || Nat.beq k 374 || Nat.beq k 384 || Nat.beq k 391 || Nat.beq k 401 || Nat.beq k 408 || Nat.beq k 428 || Nat.beq k 445 || Nat.beq k 460 || Nat.beq k 472 || Nat.beq k 487 || Nat.beq k 499 || Nat.beq k 524 || Nat.beq k 546 || Nat.beq k 561 || Nat.beq k 573 || Nat.beq k 593 || Nat.beq k 610 || Nat.beq k 620 || Nat.beq k 627 || Nat.beq k 642 || Nat.beq k 654 || Nat.beq k 664 || Nat.beq k 671 || Nat.beq k 696 || Nat.beq k 718 || Nat.beq k 728 || Nat.beq k 735 || Nat.beq k 745 || Nat.beq k 752 || Nat.beq k 762 || Nat.beq k 769) 1 _ _ _ _ _ _ _ _ _ _ _ _ h
set_option maxRecDepth 8000 in
theorem sg_264_98 {d : Nat} {I : XI} {L : XL} {D : GD} {post : XQ} {c s : Nat} {u3 : Int} {w0 : Int} (h : xR d 264 es_264 99 [xt 2, xr (some 0), xr (some 101), xi u3] [xr (some 101), xi w0] I L (gG D) c s post) : xR d 264 es_264 98 [xt 2, xr (some 0), xr (some 101), xi u3] [xi w0] I L (gG D) c s post := xW_R (fun k => Nat.beq k 2 || Nat.beq k 6 || Nat.beq k 10 || Nat.beq k 48 || Nat.beq k 75 || Nat.beq k 85 || Nat.beq k 92 || Nat.beq k 97 || Nat.beq k 99 || Nat.beq k 104 || Nat.beq k 106 || Nat.beq k 116 || Nat.beq k 123 || Nat.beq k 138 || Nat.beq k 150 || Nat.beq k 165 || Nat.beq k 177 || Nat.beq k 182 || Nat.beq k 184 || Nat.beq k 199 || Nat.beq k 211 || Nat.beq k 221 || Nat.beq k 228 || Nat.beq k 243 || Nat.beq k 255 || Nat.beq k 265 || Nat.beq k 272 || Nat.beq k 277 || Nat.beq k 279 || Nat.beq k 299 || Nat.beq k 316 || Nat.beq k 321 || Nat.beq k 323 || Nat.beq k 328 || Nat.beq k 330 || Nat.beq k 345 || Nat.beq k 357 || Nat.beq k 367 || Nat.beq k 374 || Nat.beq k 384 || Nat.beq k 391 || Nat.beq k 401 || Nat.beq k 408 || Nat.beq k 428 || Nat.beq k 445 || Nat.beq k 460 || Nat.beq k 472 || Nat.beq k 487 || Nat.beq k 499 || Nat.beq k 524 || Nat.beq k 546 || Nat.beq k 561 || Nat.beq k 573 || Nat.beq k 593 || Nat.beq k 610 || Nat.beq k 620 || Nat.beq k 627 || Nat.beq k 642 || Nat.beq k 654 || Nat.beq k 664 || Nat.beq k 671 || Nat.beq k 696 || Nat.beq k 718 || Nat.beq k 728 || Nat.beq k 735 || Nat.beq k 745 || Nat.beq k 752 || Nat.beq k 762 || Nat.beq k 769) 1 _ _ _ _ _ _ _ _ _ _ _ _ h
set_option maxRecDepth 8000 in
theorem sg_264_100 {d : Nat} {I : XI} {L : XL} {D : GD} {post : XQ} {c s : Nat} {u3 : Int} {w0 : Int} {w1 : Int} (h : (((-2147483648 ≤ w0 ∧ w0 ≤ 2147483647) ∧ (-2147483648 ≤ w1 ∧ w1 ≤ 2147483647)) ∧ ((w0 = w1 → xR d 264 es_264 10 [xt 2, xr (some 0), xr (some 101), xi (u3 + (6 : Int))] [] I L (gG D) c s post) ∧ (¬ w0 = w1 → (((0 : Int) = 0 ∨ (0 : Int) = 1) ∧ post (some (xi (0 : Int))) I L (gG D)))))) : xR d 264 es_264 100 [xt 2, xr (some 0), xr (some 101), xi u3] [xi w1, xi w0] I L (gG D) c s post := xW_R (fun k => Nat.beq k 2 || Nat.beq k 6 || Nat.beq k 10 || Nat.beq k 48 || Nat.beq k 75 || Nat.beq k 85 || Nat.beq k 92 || Nat.beq k 97 || Nat.beq k 99 || Nat.beq k 104 || Nat.beq k 106 || Nat.beq k 116 || Nat.beq k 123 || Nat.beq k 138 || Nat.beq k 150 || Nat.beq k 165 || Nat.beq k 177 || Nat.beq k 182 || Nat.beq k 184 || Nat.beq k 199 || Nat.beq k 211 || Nat.beq k 221 || Nat.beq k 228 || Nat.beq k 243 || Nat.beq k 255 || Nat.beq k 265 || Nat.beq k 272 || Nat.beq k 277 || Nat.beq k 279 || Nat.beq k 299 || Nat.beq k 316 || Nat.beq k 321 || Nat.beq k 323 || Nat.beq k 328 || Nat.beq k 330 || Nat.beq k 345 || Nat.beq k 357 || Nat.beq k 367 || Nat.beq k 374 || Nat.beq k 384 || Nat.beq k 391 || Nat.beq k 401 || Nat.beq k 408 || Nat.beq k 428 || Nat.beq k 445 || Nat.beq k 460 || Nat.beq k 472 || Nat.beq k 487 || Nat.beq k 499 || Nat.beq k 524 || Nat.beq k 546 || Nat.beq k 561 || Nat.beq k 573 || Nat.beq k 593 || Nat.beq k 610 || Nat.beq k 620 || Nat.beq k 627 || Nat.beq k 642 || Nat.beq k 654 || Nat.beq k 664 || Nat.beq k 671 || Nat.beq k 696 || Nat.beq k 718 || Nat.beq k 728 || Nat.beq k 735 || Nat.beq k 745 || Nat.beq k 752 || Nat.beq k 762 || Nat.beq k 769) 3 _ _ _ _ _ _ _ _ _ _ _ _ h
set_option maxRecDepth 8000 in
theorem lw_2 {d : Nat} {I : XI} {L : XL} {D : GD} {post : XQ}  {c s : Nat} {i : Int} (hd : 15 ≤ d) (h : (TPO (I 2) (I 1 (6 : Int)) ∧ (∀ (e4081 : Int → Int) (e4082 : Int → Int) (e4083 : Int → Int) (e4084 : Int → Int) (e4085 : Int → Int) (e4086 : Int → Int) (e4087 : Int → Int) (e4088 : Int → Int) (e4089 : Int → Int) (e4090 : Int → Int) (e4091 : Int → Int) (e4092 : Int → Int) (e4093 : Int → Int) (e4094 : Int → Int) (e4095 : Int → Int) (e4096 : Int → Int) (e4097 : Int → Int) (e4098 : Int → Int) (e4099 : Int → Int) (e4100 : Int) (e4101 : Int), ((e4081 6 = 0 ∧ ((fra (I 2) (I 1 (6 : Int)) 41 0 0 (fun _ => 0)).1 = 0 → e4091 3 = (fra (I 2) (I 1 (6 : Int)) 41 0 0 (fun _ => 0)).2 3 ∧ e4100 = 0 ∧ e4101 = 0 ∧ (∀ R P0, RDZ R → R 0 = 1 → Ag71 R (fra (I 2) (I 1 (6 : Int)) 41 0 0 (fun _ => 0)).2 → R2 e4091 e4092 e4093 e4094 e4095 e4096 e4097 e4098 e4099 (pbeg (srow R P0 102)))) ∧ (¬ (fra (I 2) (I 1 (6 : Int)) 41 0 0 (fun _ => 0)).1 = 0 → e4091 = (I 10) ∧ e4092 = (I 11) ∧ e4093 = (I 12) ∧ e4094 = (I 13) ∧ e4095 = (I 14) ∧ e4096 = (I 15) ∧ e4097 = (I 16) ∧ e4098 = (I 17) ∧ e4099 = (I 18) ∧ e4100 = I 6 (4 : Int) ∧ e4101 = I 88 (0 : Int))) → ((TPO (I 102) (I 101 (1 : Int))) ∧ (∀ (e4102 : Int) (e4103 : Int) (e4104 : Int) (e4105 : Int → Int), (((-2147483648 ≤ (if (fra (I 2) (I 1 (6 : Int)) 41 0 0 (fun _ => 0)).1 = 0 then (fra (I 2) (I 1 (6 : Int)) 41 0 0 (fun _ => 0)).2 3 else -2 - (fra (I 2) (I 1 (6 : Int)) 41 0 0 (fun _ => 0)).1) ∧ (if (fra (I 2) (I 1 (6 : Int)) 41 0 0 (fun _ => 0)).1 = 0 then (fra (I 2) (I 1 (6 : Int)) 41 0 0 (fun _ => 0)).2 3 else -2 - (fra (I 2) (I 1 (6 : Int)) 41 0 0 (fun _ => 0)).1) ≤ 2147483647) ∧ (-2147483648 ≤ (if (fra (I 102) (I 101 (1 : Int)) 41 0 0 (xfl (I 107) 0 71)).1 = 0 then (fra (I 102) (I 101 (1 : Int)) 41 0 0 (xfl (I 107) 0 71)).2 3 else -2 - (fra (I 102) (I 101 (1 : Int)) 41 0 0 (xfl (I 107) 0 71)).1) ∧ (if (fra (I 102) (I 101 (1 : Int)) 41 0 0 (xfl (I 107) 0 71)).1 = 0 then (fra (I 102) (I 101 (1 : Int)) 41 0 0 (xfl (I 107) 0 71)).2 3 else -2 - (fra (I 102) (I 101 (1 : Int)) 41 0 0 (xfl (I 107) 0 71)).1) ≤ 2147483647)) ∧ (((if (fra (I 2) (I 1 (6 : Int)) 41 0 0 (fun _ => 0)).1 = 0 then (fra (I 2) (I 1 (6 : Int)) 41 0 0 (fun _ => 0)).2 3 else -2 - (fra (I 2) (I 1 (6 : Int)) 41 0 0 (fun _ => 0)).1) = (if (fra (I 102) (I 101 (1 : Int)) 41 0 0 (xfl (I 107) 0 71)).1 = 0 then (fra (I 102) (I 101 (1 : Int)) 41 0 0 (xfl (I 107) 0 71)).2 3 else -2 - (fra (I 102) (I 101 (1 : Int)) 41 0 0 (xfl (I 107) 0 71)).1) → xR d 264 es_264 10 [xt 2, xr (some 0), xr (some 101), xi (i + (6 : Int))] [] (xsc (xsc (xsc (xsc (xsc (xsc (xsc (xsc (xsc (xsc (xsc (xsc (xsc (xsc (xsc (xsc (xsc (xsc (xsc (xsc (xsc (xsc (xsc (xsc (xsc I 1 e4081) 3 e4082) 4 e4083) 5 e4084) 6 (xup (I 6) (4 : Int) e4100)) 10 e4091) 11 e4092) 12 e4093) 13 e4094) 14 e4095) 15 e4096) 16 e4097) 17 e4098) 18 e4099) 25 e4085) 26 e4086) 27 e4087) 28 e4088) 29 e4089) 30 e4090) 88 (xup (I 88) (0 : Int) e4101)) 101 (xup (xup (xup (xup (xup (xup (xup (xup (I 101) (1 : Int) 0) (8 : Int) e4102) (9 : Int) ((fra (I 102) (I 101 (1 : Int)) 41 0 0 (xfl (I 107) 0 71)).1)) (10 : Int) e4103) (11 : Int) 6) (12 : Int) 0) (14 : Int) e4104) (25 : Int) (if (fra (I 102) (I 101 (1 : Int)) 41 0 0 (xfl (I 107) 0 71)).1 = 0 then 0 else I 101 (25 : Int)))) 104 (xup (I 104) 6 0)) 107 e4105) 111 (if (fra (I 102) (I 101 (1 : Int)) 41 0 0 (xfl (I 107) 0 71)).1 = 0 then (pbeg (srow (fra (I 102) (I 101 (1 : Int)) 41 0 0 (xfl (I 107) 0 71)).2 (I 111) 102)) else (I 111))) L (gG D) c s post) ∧ (¬ (if (fra (I 2) (I 1 (6 : Int)) 41 0 0 (fun _ => 0)).1 = 0 then (fra (I 2) (I 1 (6 : Int)) 41 0 0 (fun _ => 0)).2 3 else -2 - (fra (I 2) (I 1 (6 : Int)) 41 0 0 (fun _ => 0)).1) = (if (fra (I 102) (I 101 (1 : Int)) 41 0 0 (xfl (I 107) 0 71)).1 = 0 then (fra (I 102) (I 101 (1 : Int)) 41 0 0 (xfl (I 107) 0 71)).2 3 else -2 - (fra (I 102) (I 101 (1 : Int)) 41 0 0 (xfl (I 107) 0 71)).1) → post (some (xi (0 : Int))) (xsc (xsc (xsc (xsc (xsc (xsc (xsc (xsc (xsc (xsc (xsc (xsc (xsc (xsc (xsc (xsc (xsc (xsc (xsc (xsc (xsc (xsc (xsc (xsc (xsc I 1 e4081) 3 e4082) 4 e4083) 5 e4084) 6 (xup (I 6) (4 : Int) e4100)) 10 e4091) 11 e4092) 12 e4093) 13 e4094) 14 e4095) 15 e4096) 16 e4097) 17 e4098) 18 e4099) 25 e4085) 26 e4086) 27 e4087) 28 e4088) 29 e4089) 30 e4090) 88 (xup (I 88) (0 : Int) e4101)) 101 (xup (xup (xup (xup (xup (xup (xup (xup (I 101) (1 : Int) 0) (8 : Int) e4102) (9 : Int) ((fra (I 102) (I 101 (1 : Int)) 41 0 0 (xfl (I 107) 0 71)).1)) (10 : Int) e4103) (11 : Int) 6) (12 : Int) 0) (14 : Int) e4104) (25 : Int) (if (fra (I 102) (I 101 (1 : Int)) 41 0 0 (xfl (I 107) 0 71)).1 = 0 then 0 else I 101 (25 : Int)))) 104 (xup (I 104) 6 0)) 107 e4105) 111 (if (fra (I 102) (I 101 (1 : Int)) 41 0 0 (xfl (I 107) 0 71)).1 = 0 then (pbeg (srow (fra (I 102) (I 101 (1 : Int)) 41 0 0 (xfl (I 107) 0 71)).2 (I 111) 102)) else (I 111))) L (gG D)))))))))) : xR d 264 es_264 96 [xt 2, xr (some 0), xr (some 101), xi i] [] I L (gG D) c s post := sg_264_96  ((xR_cQ rfl rfl rfl (c_115 h.1) (by omega) (fun _ _ _ _ hx4108 => by obtain ⟨e4081, e4082, e4083, e4084, e4085, e4086, e4087, e4088, e4089, e4090, e4091, e4092, e4093, e4094, e4095, e4096, e4097, e4098, e4099, e4100, e4101, hp4109, rfl, rfl, rfl, rfl⟩ := hx4108; exact (sg_264_98  (xR_cQ rfl rfl rfl (c_186 (h.2 e4081 e4082 e4083 e4084 e4085 e4086 e4087 e4088 e4089 e4090 e4091 e4092 e4093 e4094 e4095 e4096 e4097 e4098 e4099 e4100 e4101 hp4109).1) (by omega) (fun _ _ _ _ hx4110 => by obtain ⟨e4102, e4103, e4104, e4105, rfl, rfl, rfl, rfl⟩ := hx4110; exact (sg_264_100  ⟨⟨((h.2 e4081 e4082 e4083 e4084 e4085 e4086 e4087 e4088 e4089 e4090 e4091 e4092 e4093 e4094 e4095 e4096 e4097 e4098 e4099 e4100 e4101 hp4109).2 e4102 e4103 e4104 e4105).1.1, ((h.2 e4081 e4082 e4083 e4084 e4085 e4086 e4087 e4088 e4089 e4090 e4091 e4092 e4093 e4094 e4095 e4096 e4097 e4098 e4099 e4100 e4101 hp4109).2 e4102 e4103 e4104 e4105).1.2⟩, ⟨fun q4106 => (xR_memc (((h.2 e4081 e4082 e4083 e4084 e4085 e4086 e4087 e4088 e4089 e4090 e4091 e4092 e4093 e4094 e4095 e4096 e4097 e4098 e4099 e4100 e4101 hp4109).2 e4102 e4103 e4104 e4105).2.1 q4106) (funext fun i => (xpt rfl (fun h111_ => (xpt rfl (fun h107_ => (xpt rfl (fun h104_ => (xpt rfl (fun h101_ => (xpt rfl (fun h88_ => (xpt rfl (fun h30_ => (xpt rfl (fun h29_ => (xpt rfl (fun h28_ => (xpt rfl (fun h27_ => (xpt rfl (fun h26_ => (xpt rfl (fun h25_ => (xpt rfl (fun h18_ => (xpt rfl (fun h17_ => (xpt rfl (fun h16_ => (xpt rfl (fun h15_ => (xpt rfl (fun h14_ => (xpt rfl (fun h13_ => (xpt rfl (fun h12_ => (xpt rfl (fun h11_ => (xpt rfl (fun h10_ => (xpt rfl (fun h6_ => (xpt rfl (fun h5_ => (xpt rfl (fun h4_ => (xpt rfl (fun h3_ => (xpt rfl (fun h1_ => (by simp only [xsc_ne _ _ h1_, xwr_ne _ _ _ h1_, xsc_ne _ _ h3_, xwr_ne _ _ _ h3_, xsc_ne _ _ h4_, xwr_ne _ _ _ h4_, xsc_ne _ _ h5_, xwr_ne _ _ _ h5_, xsc_ne _ _ h6_, xwr_ne _ _ _ h6_, xsc_ne _ _ h10_, xwr_ne _ _ _ h10_, xsc_ne _ _ h11_, xwr_ne _ _ _ h11_, xsc_ne _ _ h12_, xwr_ne _ _ _ h12_, xsc_ne _ _ h13_, xwr_ne _ _ _ h13_, xsc_ne _ _ h14_, xwr_ne _ _ _ h14_, xsc_ne _ _ h15_, xwr_ne _ _ _ h15_, xsc_ne _ _ h16_, xwr_ne _ _ _ h16_, xsc_ne _ _ h17_, xwr_ne _ _ _ h17_, xsc_ne _ _ h18_, xwr_ne _ _ _ h18_, xsc_ne _ _ h25_, xwr_ne _ _ _ h25_, xsc_ne _ _ h26_, xwr_ne _ _ _ h26_, xsc_ne _ _ h27_, xwr_ne _ _ _ h27_, xsc_ne _ _ h28_, xwr_ne _ _ _ h28_, xsc_ne _ _ h29_, xwr_ne _ _ _ h29_, xsc_ne _ _ h30_, xwr_ne _ _ _ h30_, xsc_ne _ _ h88_, xwr_ne _ _ _ h88_, xsc_ne _ _ h101_, xwr_ne _ _ _ h101_, xsc_ne _ _ h104_, xwr_ne _ _ _ h104_, xsc_ne _ _ h107_, xwr_ne _ _ _ h107_, xsc_ne _ _ h111_, xwr_ne _ _ _ h111_])))))))))))))))))))))))))))))))))))))))))))))))))))) rfl), fun q4107 => ⟨(by decide), (xpost (((h.2 e4081 e4082 e4083 e4084 e4085 e4086 e4087 e4088 e4089 e4090 e4091 e4092 e4093 e4094 e4095 e4096 e4097 e4098 e4099 e4100 e4101 hp4109).2 e4102 e4103 e4104 e4105).2.2 q4107) (funext fun i => (xpt rfl (fun h111_ => (xpt rfl (fun h107_ => (xpt rfl (fun h104_ => (xpt rfl (fun h101_ => (xpt rfl (fun h88_ => (xpt rfl (fun h30_ => (xpt rfl (fun h29_ => (xpt rfl (fun h28_ => (xpt rfl (fun h27_ => (xpt rfl (fun h26_ => (xpt rfl (fun h25_ => (xpt rfl (fun h18_ => (xpt rfl (fun h17_ => (xpt rfl (fun h16_ => (xpt rfl (fun h15_ => (xpt rfl (fun h14_ => (xpt rfl (fun h13_ => (xpt rfl (fun h12_ => (xpt rfl (fun h11_ => (xpt rfl (fun h10_ => (xpt rfl (fun h6_ => (xpt rfl (fun h5_ => (xpt rfl (fun h4_ => (xpt rfl (fun h3_ => (xpt rfl (fun h1_ => (by simp only [xsc_ne _ _ h1_, xwr_ne _ _ _ h1_, xsc_ne _ _ h3_, xwr_ne _ _ _ h3_, xsc_ne _ _ h4_, xwr_ne _ _ _ h4_, xsc_ne _ _ h5_, xwr_ne _ _ _ h5_, xsc_ne _ _ h6_, xwr_ne _ _ _ h6_, xsc_ne _ _ h10_, xwr_ne _ _ _ h10_, xsc_ne _ _ h11_, xwr_ne _ _ _ h11_, xsc_ne _ _ h12_, xwr_ne _ _ _ h12_, xsc_ne _ _ h13_, xwr_ne _ _ _ h13_, xsc_ne _ _ h14_, xwr_ne _ _ _ h14_, xsc_ne _ _ h15_, xwr_ne _ _ _ h15_, xsc_ne _ _ h16_, xwr_ne _ _ _ h16_, xsc_ne _ _ h17_, xwr_ne _ _ _ h17_, xsc_ne _ _ h18_, xwr_ne _ _ _ h18_, xsc_ne _ _ h25_, xwr_ne _ _ _ h25_, xsc_ne _ _ h26_, xwr_ne _ _ _ h26_, xsc_ne _ _ h27_, xwr_ne _ _ _ h27_, xsc_ne _ _ h28_, xwr_ne _ _ _ h28_, xsc_ne _ _ h29_, xwr_ne _ _ _ h29_, xsc_ne _ _ h30_, xwr_ne _ _ _ h30_, xsc_ne _ _ h88_, xwr_ne _ _ _ h88_, xsc_ne _ _ h101_, xwr_ne _ _ _ h101_, xsc_ne _ _ h104_, xwr_ne _ _ _ h104_, xsc_ne _ _ h107_, xwr_ne _ _ _ h107_, xsc_ne _ _ h111_, xwr_ne _ _ _ h111_])))))))))))))))))))))))))))))))))))))))))))))))))))) rfl)⟩⟩⟩)))))))
theorem ls_2 {I : XI} {L : XL} {D : GD} {d c s : Nat} {post : XQ} {i : Int} (hd : 16 ≤ d) (hi : 0 ≤ i ∧ i + 6 ≤ (D.2.2.2.2 : Int)) (hsc : ∀ j, xrg (D.2.2.2.1 j)) (hr : REL I D) (hc : ∀ I2 L2, REL I2 D → xR d 264 es_264 10 [xt 2, xr (some 0), xr (some 101), xi (i + 6)] [] I2 L2 (gG D) c s post) : xR d 264 es_264 96 [xt 2, xr (some 0), xr (some 101), xi i] [] I L (gG D) c s post := by
  have hrr := hr.rr
  obtain ⟨h1, h2, h3, h4, h5, h6, ⟨h70, h71, h72, h73⟩, h8⟩ := hr
  have hC := h2.2.1
  have hn := hC.n
  have hg := hC.g
  have htn := hC.turn
  have s1 := hsc (i + 1)
  have s2 := hsc (i + 2)
  have s3 := hsc (i + 3)
  have s4 := hsc (i + 4)
  have hrow := h2.1
  have e0 : I 111 0 = I 10 0 := congrFun hrow 0
  have e1 : I 111 1 = I 16 1 := congrFun hrow 1
  have e2 : I 111 2 = I 10 2 := congrFun hrow 2
  have e3 : I 111 3 = I 10 3 := congrFun hrow 3
  have e4 : I 111 4 = I 10 4 := congrFun hrow 4
  have e10 : I 111 10 = I 16 2 := congrFun hrow 10
  have hS : SO (I 111) := by rw [hrow]; exact hC.1
  have ef : I 101 21 = I 6 2 := h3.2.2.2.1.symm
  have ers : I 101 2 = (D.1 : Int) := h3.2.1
  have erc : I 0 4 = (D.1 : Int) := h3.1
  have hD := h3.2.2.1
  have hfr := h3.2.2.2.2.1
  have ht9 := h2.2.2.1
  have hf0 := hC.f
  have hRf := h3.2.2.2.2.2.1 (I 6 2) hfr.1 hfr.2
  have hRO : RO (I 103) (I 105) (I 106) (I 101 21) := by rw [ef]; exact h3.2.2.2.2.2.2.1 (I 6 2) hfr.1 hfr.2
  have hRO2 : RO (I 103) (I 105) (I 106) (I 6 2) := h3.2.2.2.2.2.2.1 (I 6 2) hfr.1 hfr.2
  have ekk : I 101 23 = 0 := h5.2.2
  have ex : I 101 22 = I 6 3 := h4.1.symm
  have hx := h4.2
  have etp : I 101 1 = I 1 6 := h1.1.symm
  have htp := h1.2.1
  have eun : I 101 25 = I 88 0 := h6.1.symm
  have hun := h6.2.1
  have hnx := h6.2.2.1
  refine lw_2 (by omega) ?_
  have hT : TPO (I 2) (I 1 6) := ⟨htp, h1.2.2.2⟩
  have eb : I 102 = I 2 := h1.2.2.1.symm
  refine ⟨hT, fun t9 pc pl nm f9 k9 z9 r9 l9 w9 F8 K8 Z8 R8 L8 W8 T8 O8 U8 n8 a8 hp => ?_⟩
  rw [eb, etp]
  refine ⟨hT, fun nx9 nm9 ln9 rd9 => ?_⟩
  obtain ⟨p1, p2, p3⟩ := hp
  have hall := fra_all (b := I 2) (n := I 1 6) 41 0 0 (xfl (I 107) 0 71) (fun _ => 0) (by omega) htp.1 RDI_0 RDZ_0 (fun j j0 j1 => if_pos ⟨j0, j1⟩)
  have hrg := fra_rg (b := I 2) htp.2 41 0 0 (fun _ => 0) (by omega) htp.1
  have hR0 : RDI (fun _ => 0) := RDI_ag (b := xfl (I 107) 0 71) (fun j j0 j1 => (if_pos ⟨j0, j1⟩).symm) RDI_0
  have hRD := fra_RDI (b := I 2) htp.2 41 0 0 (fun _ => 0) (by omega) htp.1 hR0
  by_cases w0 : (fra (I 2) (I 1 6) 41 0 0 (fun _ => 0)).1 = 0
  · have w1 : (fra (I 2) (I 1 6) 41 0 0 (xfl (I 107) 0 71)).1 = 0 := by rw [hall.1]; exact w0
    obtain ⟨z1, z2, z3⟩ := hall.2 w1
    obtain ⟨y1, y2, y3, y4⟩ := p2 w0
    have e3' := z3 3 (by decide) (by decide)
    have hr3 := (hRD w0).1.2.1
    simp only [if_pos w0, if_pos w1, e3']
    refine ⟨⟨⟨by omega, by omega⟩, ⟨by omega, by omega⟩⟩, fun _ => ?_, fun h => absurd (by first | rfl | trivial) h⟩
    have hr2 := y4 (fra (I 2) (I 1 6) 41 0 0 (xfl (I 107) 0 71)).2 (I 111) z1 z2 z3
    have pbz : ∀ j, 71 ≤ j → j < 102 → pbeg (srow (fra (I 2) (I 1 6) 41 0 0 (xfl (I 107) 0 71)).2 (I 111) 102) j = 0 := fun j a b => pb_out a b
    refine hc _ _ ⟨⟨p1, ?_, h1.2.2.1, fun j j0 j1 => ?_⟩, hr2, h3, h4, ⟨⟨?_, ?_, fun i i0 i1 => ?_⟩, ⟨?_, fun i i0 i1 => ?_⟩, ekk⟩, ⟨y3, ?_, hnx, fun i i0 i1 => ?_⟩, ⟨h70, h71, h72, h73⟩, h8⟩
    · show 0 ≤ t9 6 ∧ t9 6 ≤ 400
      omega
    · have : j < t9 6 := j1
      omega
    · show 0 ≤ n8 ∧ n8 ≤ 10
      omega
    · show n8 = pbeg (srow (fra (I 2) (I 1 6) 41 0 0 (xfl (I 107) 0 71)).2 (I 111) 102) 101
      rw [y2, pbz 101 (by decide) (by decide)]
    · have : i < n8 := i1
      omega
    · show 0 ≤ pbeg (srow (fra (I 2) (I 1 6) 41 0 0 (xfl (I 107) 0 71)).2 (I 111) 102) 101 ∧ pbeg (srow (fra (I 2) (I 1 6) 41 0 0 (xfl (I 107) 0 71)).2 (I 111) 102) 101 ≤ 10
      rw [pbz 101 (by decide) (by decide)]; decide
    · show (0 ≤ pbeg (srow (fra (I 2) (I 1 6) 41 0 0 (xfl (I 107) 0 71)).2 (I 111) 102) (71 + 3 * i) ∧ pbeg (srow (fra (I 2) (I 1 6) 41 0 0 (xfl (I 107) 0 71)).2 (I 111) 102) (71 + 3 * i) ≤ 60) ∧ (0 ≤ pbeg (srow (fra (I 2) (I 1 6) 41 0 0 (xfl (I 107) 0 71)).2 (I 111) 102) (71 + 3 * i + 1) ∧ pbeg (srow (fra (I 2) (I 1 6) 41 0 0 (xfl (I 107) 0 71)).2 (I 111) 102) (71 + 3 * i + 1) < 10) ∧ (-1 ≤ pbeg (srow (fra (I 2) (I 1 6) 41 0 0 (xfl (I 107) 0 71)).2 (I 111) 102) (71 + 3 * i + 2) ∧ pbeg (srow (fra (I 2) (I 1 6) 41 0 0 (xfl (I 107) 0 71)).2 (I 111) 102) (71 + 3 * i + 2) < 5)
      rw [pbz _ (by omega) (by omega), pbz _ (by omega) (by omega), pbz _ (by omega) (by omega)]; decide
    · show 0 ≤ a8 ∧ a8 ≤ 20
      omega
    · have : i < a8 := i1
      omega
  · have w1 : ¬ (fra (I 2) (I 1 6) 41 0 0 (xfl (I 107) 0 71)).1 = 0 := by rw [hall.1]; exact w0
    obtain ⟨q1, q2, q3, q4, q5, q6, q7, q8, q9, qa, qb⟩ := p3 w0
    subst q1 q2 q3 q4 q5 q6 q7 q8 q9 qa qb
    simp only [if_neg w0, if_neg w1, hall.1, xup_self]
    refine ⟨⟨⟨by omega, by omega⟩, ⟨by omega, by omega⟩⟩, fun _ => ?_, fun h => absurd (by first | rfl | trivial) h⟩
    refine hc _ _ ⟨⟨p1, ?_, h1.2.2.1, fun j j0 j1 => ?_⟩, h2, h3, h4, h5, ⟨?_, h6.2⟩, ⟨h70, h71, h72, h73⟩, h8⟩
    · show 0 ≤ t9 6 ∧ t9 6 ≤ 400
      omega
    · have : j < t9 6 := j1
      omega
    · exact eun.symm

set_option maxHeartbeats 4000000 in
set_option maxRecDepth 100000 in
theorem law_end {G : gG} {X : gX} (LW : gLw G X) (hend : ∀ k n lv M, k ≤ 699478 → n ≤ 6993413 → Q G X k n 740 lv [.int (nI 1)] M) {A : gSt0} {M : gMem} (hO : gOk A) (hV : gVv A) (hC : gRC A M) : Q G X 290000 2320000 330 (zLE G) [] M := by
  have C := LW.1
  have h60 := hO.1.1
  have hd := ab_hd hO.2
  obtain ⟨a, ha⟩ : ∃ a, smN (atN G 58) (aN A) = a := ⟨_, rfl⟩
  obtain ⟨b, hb⟩ : ∃ b, smN (atN G 59) (aN A) = b := ⟨_, rfl⟩
  have han : a < aN A := by rw [← ha]; exact (sm_eq _ (by omega) (by omega)).2
  have hbn : b < aN A := by rw [← hb]; exact (sm_eq _ (by omega) (by omega)).2
  refine j_aload_n C dL_law_330 rfl ?_
  refine j_bipush C (v := nI 58) dL_law_331 rfl ?_
  refine q_callS C (sp_L_at G M LW.2 (k := 58) (by decide)) vL_at lk_L_155 rfl rfl (Nat.le_of_ble_eq_true rfl) ⟨⟨(Nat.le_of_ble_eq_true rfl), (Nat.le_of_ble_eq_true rfl)⟩, (by show _ ≤ (699478 : Nat); simp only [gRm]; omega), (by show _ ≤ (6993413 : Nat); simp only [gRm]; omega)⟩ dL_law_333 ?_
  refine j_aload_n C dL_law_336 rfl ?_
  refine q_callV C (sp_X6_commits G M hC) vX6_commits lk_L_80 rfl (by decide) rfl rfl (Nat.le_of_ble_eq_true rfl) ⟨⟨(Nat.le_of_ble_eq_true rfl), (Nat.le_of_ble_eq_true rfl)⟩, (by show _ ≤ (699478 : Nat); simp only [gRm]; omega), (by show _ ≤ (6993413 : Nat); simp only [gRm]; omega)⟩ dL_law_337 ?_
  refine q_callS C (sp_some G M (atN G 58) (n := aN A) (by omega) (by omega)) vL_some lk_L_75 rfl rfl (Nat.le_of_ble_eq_true rfl) ⟨⟨(Nat.le_of_ble_eq_true rfl), (Nat.le_of_ble_eq_true rfl)⟩, (by show _ ≤ (699478 : Nat); simp only [gRm]; omega), (by show _ ≤ (6993413 : Nat); simp only [gRm]; omega)⟩ dL_law_340 ?_
  rw [ha]
  refine j_istore_n C dL_law_343 (by decide) rfl ?_
  refine j_aload_n C dL_law_344 rfl ?_
  refine j_bipush C (v := nI 59) dL_law_345 rfl ?_
  refine q_callS C (sp_L_at G M LW.2 (k := 59) (by decide)) vL_at lk_L_155 rfl rfl (Nat.le_of_ble_eq_true rfl) ⟨⟨(Nat.le_of_ble_eq_true rfl), (Nat.le_of_ble_eq_true rfl)⟩, (by show _ ≤ (699478 : Nat); simp only [gRm]; omega), (by show _ ≤ (6993413 : Nat); simp only [gRm]; omega)⟩ dL_law_347 ?_
  refine j_aload_n C dL_law_350 rfl ?_
  refine q_callV C (sp_X6_commits G M hC) vX6_commits lk_L_80 rfl (by decide) rfl rfl (Nat.le_of_ble_eq_true rfl) ⟨⟨(Nat.le_of_ble_eq_true rfl), (Nat.le_of_ble_eq_true rfl)⟩, (by show _ ≤ (699478 : Nat); simp only [gRm]; omega), (by show _ ≤ (6993413 : Nat); simp only [gRm]; omega)⟩ dL_law_351 ?_
  refine q_callS C (sp_some G M (atN G 59) (n := aN A) (by omega) (by omega)) vL_some lk_L_75 rfl rfl (Nat.le_of_ble_eq_true rfl) ⟨⟨(Nat.le_of_ble_eq_true rfl), (Nat.le_of_ble_eq_true rfl)⟩, (by show _ ≤ (699478 : Nat); simp only [gRm]; omega), (by show _ ≤ (6993413 : Nat); simp only [gRm]; omega)⟩ dL_law_354 ?_
  rw [hb]
  refine j_istore C dL_law_357 (by decide) rfl ?_
  refine j_aload_n C dL_law_359 rfl ?_
  refine j_aload_n C dL_law_360 rfl ?_
  refine q_callV C (sp_X6_currentBranch G M hC) vX6_currentBranch lk_L_85 rfl (by decide) rfl rfl (Nat.le_of_ble_eq_true rfl) ⟨⟨(Nat.le_of_ble_eq_true rfl), (Nat.le_of_ble_eq_true rfl)⟩, (by show _ ≤ (699478 : Nat); simp only [gRm]; omega), (by show _ ≤ (6993413 : Nat); simp only [gRm]; omega)⟩ dL_law_361 ?_
  have q364 := sp_L_head G M hO hC (nI (aC A))
  rw [r_headC hO] at q364
  refine q_callHS C (q364) rfl kL_head tL_head lk_L_122 rfl rfl (Nat.le_of_ble_eq_true rfl) ⟨⟨(Nat.le_of_ble_eq_true rfl), (Nat.le_of_ble_eq_true rfl)⟩, (by show _ ≤ (699478 : Nat); simp only [gRm]; omega), (by show _ ≤ (6993413 : Nat); simp only [gRm]; omega)⟩ dL_law_364 (fun M1 h1 => ?_)
  have h1 : gRC A M1 := h1
  show Q G X _ _ _ _ (.int (nI (aHd A)) :: _) _
  refine j_istore C dL_law_367 (by decide) rfl ?_
  refine j_aload_n C dL_law_369 rfl ?_
  refine j_iload_n C dL_law_370 rfl ?_
  refine j_iload C dL_law_371 rfl ?_
  refine q_callSS C (sp_L_isRelated G M1 hO h1 han hbn) vL_isRelated lk_L_199 rfl rfl (Nat.le_of_ble_eq_true rfl) ⟨⟨(Nat.le_of_ble_eq_true rfl), (Nat.le_of_ble_eq_true rfl)⟩, (by show _ ≤ (699478 : Nat); simp only [gRm]; omega), (by show _ ≤ (6993413 : Nat); simp only [gRm]; omega)⟩ dL_law_373 (fun M2 h2 => ?_)
  refine j_if_eq C 417 dL_law_376 (fun h => absurd h (by decide)) (fun _ => ?_) (by decide)
  refine j_aload_n C dL_law_379 rfl ?_
  refine j_iload C dL_law_380 rfl ?_
  refine j_iload_n C dL_law_382 rfl ?_
  refine q_callSS C (sp_L_isRelated G M2 hO h2 hbn han) vL_isRelated lk_L_199 rfl rfl (Nat.le_of_ble_eq_true rfl) ⟨⟨(Nat.le_of_ble_eq_true rfl), (Nat.le_of_ble_eq_true rfl)⟩, (by show _ ≤ (699478 : Nat); simp only [gRm]; omega), (by show _ ≤ (6993413 : Nat); simp only [gRm]; omega)⟩ dL_law_383 (fun M3 h3 => ?_)
  refine j_if_eq C 417 dL_law_386 (fun h => absurd h (by decide)) (fun _ => ?_) (by decide)
  refine j_aload_n C dL_law_389 rfl ?_
  refine j_iload_n C dL_law_390 rfl ?_
  refine j_iload C dL_law_391 rfl ?_
  refine q_callSS C (sp_L_isRelated G M3 hO h3 han hd.2) vL_isRelated lk_L_199 rfl rfl (Nat.le_of_ble_eq_true rfl) ⟨⟨(Nat.le_of_ble_eq_true rfl), (Nat.le_of_ble_eq_true rfl)⟩, (by show _ ≤ (699478 : Nat); simp only [gRm]; omega), (by show _ ≤ (6993413 : Nat); simp only [gRm]; omega)⟩ dL_law_393 (fun M4 h4 => ?_)
  refine j_if_eq C 417 dL_law_396 (fun h => absurd h (by decide)) (fun _ => ?_) (by decide)
  refine j_aload_n C dL_law_399 rfl ?_
  refine j_iload C dL_law_400 rfl ?_
  refine j_iload C dL_law_402 rfl ?_
  refine q_callSS C (sp_L_isRelated G M4 hO h4 hd.2 hd.2) vL_isRelated lk_L_199 rfl rfl (Nat.le_of_ble_eq_true rfl) ⟨⟨(Nat.le_of_ble_eq_true rfl), (Nat.le_of_ble_eq_true rfl)⟩, (by show _ ≤ (699478 : Nat); simp only [gRm]; omega), (by show _ ≤ (6993413 : Nat); simp only [gRm]; omega)⟩ dL_law_404 (fun M5 h5 => ?_)
  refine j_if_eq C 417 dL_law_407 (fun h => absurd h (by decide)) (fun _ => ?_) (by decide)
  refine j_aload_n C dL_law_410 rfl ?_
  refine q_callSS C (sp_L_isPacked G M5 hO hV.1 h5) vL_isPacked lk_L_203 rfl rfl (Nat.le_of_ble_eq_true rfl) ⟨⟨(Nat.le_of_ble_eq_true rfl), (Nat.le_of_ble_eq_true rfl)⟩, (by show _ ≤ (699478 : Nat); simp only [gRm]; omega), (by show _ ≤ (6993413 : Nat); simp only [gRm]; omega)⟩ dL_law_411 (fun M6 h6 => ?_)
  refine j_if_ne C 419 dL_law_414 (fun _ => ?_) (fun h => absurd h (by decide)) (by decide)
  refine j_aload_n C dL_law_419 rfl ?_
  refine q_callSS C (sp_L_sum G M6 hO h6) vL_sum lk_L_160 rfl rfl (Nat.le_of_ble_eq_true rfl) ⟨⟨(Nat.le_of_ble_eq_true rfl), (Nat.le_of_ble_eq_true rfl)⟩, (by show _ ≤ (699478 : Nat); simp only [gRm]; omega), (by show _ ≤ (6993413 : Nat); simp only [gRm]; omega)⟩ dL_law_420 (fun M7 h7 => ?_)
  refine j_lstore C dL_law_423 (by decide) rfl ?_
  refine j_aload_n C dL_law_425 rfl ?_
  refine q_callV C (sp_X6_commits G M7 h7) vX6_commits lk_L_80 rfl (by decide) rfl rfl (Nat.le_of_ble_eq_true rfl) ⟨⟨(Nat.le_of_ble_eq_true rfl), (Nat.le_of_ble_eq_true rfl)⟩, (by show _ ≤ (699478 : Nat); simp only [gRm]; omega), (by show _ ≤ (6993413 : Nat); simp only [gRm]; omega)⟩ dL_law_426 ?_
  refine j_istore C dL_law_429 (by decide) rfl ?_
  refine j_aload_n C dL_law_431 rfl ?_
  refine j_bipush C (v := nI 8) dL_law_432 rfl ?_
  refine j_iconst C (v := (-1)) dL_law_434 rfl ?_
  have q435 := sp_L_writes G M7 hO h7 (nI 8) (-1)
  rw [r_write1 A, w_1 A] at q435
  refine q_callHS C (q435) rfl kL_writes tL_writes lk_L_167 rfl rfl (Nat.le_of_ble_eq_true rfl) ⟨⟨(Nat.le_of_ble_eq_true rfl), (Nat.le_of_ble_eq_true rfl)⟩, (by show _ ≤ (699478 : Nat); simp only [gRm]; omega), (by show _ ≤ (6993413 : Nat); simp only [gRm]; omega)⟩ dL_law_435 (fun M8 h8 => ?_)
  have h8 : gRC A M8 := h8
  refine j_sipush C (v := (-1001)) dL_law_438 rfl ?_
  refine j_icmp_ne C 695 dL_law_441 (fun h => absurd rfl h) (fun _ => ?_) (by decide)
  refine j_aload_n C dL_law_444 rfl ?_
  refine j_bipush C (v := nI 7) dL_law_445 rfl ?_
  refine j_sipush C (v := nI 10000) dL_law_447 rfl ?_
  have q450 := sp_L_writes G M8 hO h8 (nI 7) (nI 10000)
  rw [r_write2 A, w_2 A] at q450
  refine q_callHS C (q450) rfl kL_writes tL_writes lk_L_167 rfl rfl (Nat.le_of_ble_eq_true rfl) ⟨⟨(Nat.le_of_ble_eq_true rfl), (Nat.le_of_ble_eq_true rfl)⟩, (by show _ ≤ (699478 : Nat); simp only [gRm]; omega), (by show _ ≤ (6993413 : Nat); simp only [gRm]; omega)⟩ dL_law_450 (fun M9 h9 => ?_)
  have h9 : gRC A M9 := h9
  refine j_sipush C (v := (-1002)) dL_law_453 rfl ?_
  refine j_icmp_ne C 695 dL_law_456 (fun h => absurd rfl h) (fun _ => ?_) (by decide)
  refine j_aload_n C dL_law_459 rfl ?_
  refine j_iconst C (v := (-1)) dL_law_460 rfl ?_
  have q461 := sp_L_erases G M9 hO h9 (-1)
  rw [r_erase A, w_1 A] at q461
  refine q_callHS C (q461) rfl kL_erases tL_erases lk_L_170 rfl rfl (Nat.le_of_ble_eq_true rfl) ⟨⟨(Nat.le_of_ble_eq_true rfl), (Nat.le_of_ble_eq_true rfl)⟩, (by show _ ≤ (699478 : Nat); simp only [gRm]; omega), (by show _ ≤ (6993413 : Nat); simp only [gRm]; omega)⟩ dL_law_461 (fun M10 h10 => ?_)
  have h10 : gRC A M10 := h10
  refine j_sipush C (v := (-1001)) dL_law_464 rfl ?_
  refine j_icmp_ne C 695 dL_law_467 (fun h => absurd rfl h) (fun _ => ?_) (by decide)
  refine j_aload_n C dL_law_470 rfl ?_
  refine j_iconst C (v := nI 0) dL_law_471 rfl ?_
  refine j_bipush C (v := nI 8) dL_law_472 rfl ?_
  have q474 := sp_L_moves G M10 hO h10 (nI 0) (nI 8)
  rw [r_move A, w_1 A] at q474
  refine q_callHS C (q474) rfl kL_moves tL_moves lk_L_173 rfl rfl (Nat.le_of_ble_eq_true rfl) ⟨⟨(Nat.le_of_ble_eq_true rfl), (Nat.le_of_ble_eq_true rfl)⟩, (by show _ ≤ (699478 : Nat); simp only [gRm]; omega), (by show _ ≤ (6993413 : Nat); simp only [gRm]; omega)⟩ dL_law_474 (fun M11 h11 => ?_)
  have h11 : gRC A M11 := h11
  refine j_sipush C (v := (-1001)) dL_law_477 rfl ?_
  refine j_icmp_ne C 695 dL_law_480 (fun h => absurd rfl h) (fun _ => ?_) (by decide)
  refine j_aload_n C dL_law_483 rfl ?_
  refine j_bipush C (v := nI 8) dL_law_484 rfl ?_
  have q486 := sp_L_lies G M11 hO h11 (nI 8)
  rw [r_content A, w_1 A] at q486
  refine q_callHS C (q486) rfl kL_lies tL_lies lk_L_113 rfl rfl (Nat.le_of_ble_eq_true rfl) ⟨⟨(Nat.le_of_ble_eq_true rfl), (Nat.le_of_ble_eq_true rfl)⟩, (by show _ ≤ (699478 : Nat); simp only [gRm]; omega), (by show _ ≤ (6993413 : Nat); simp only [gRm]; omega)⟩ dL_law_486 (fun M12 h12 => ?_)
  have h12 : gRC A M12 := h12
  refine j_sipush C (v := (-1001)) dL_law_489 rfl ?_
  refine j_icmp_ne C 695 dL_law_492 (fun h => absurd rfl h) (fun _ => ?_) (by decide)
  refine j_aload_n C dL_law_495 rfl ?_
  refine j_iconst C (v := nI 5) dL_law_496 rfl ?_
  have q497 := sp_L_branches G M12 hO h12 (nI 5)
  rw [r_branch1 A, w_1 A] at q497
  refine q_callHS C (q497) rfl kL_branches tL_branches lk_L_179 rfl rfl (Nat.le_of_ble_eq_true rfl) ⟨⟨(Nat.le_of_ble_eq_true rfl), (Nat.le_of_ble_eq_true rfl)⟩, (by show _ ≤ (699478 : Nat); simp only [gRm]; omega), (by show _ ≤ (6993413 : Nat); simp only [gRm]; omega)⟩ dL_law_497 (fun M13 h13 => ?_)
  have h13 : gRC A M13 := h13
  refine j_sipush C (v := (-1001)) dL_law_500 rfl ?_
  refine j_icmp_ne C 695 dL_law_503 (fun h => absurd rfl h) (fun _ => ?_) (by decide)
  refine j_aload_n C dL_law_506 rfl ?_
  refine j_iconst C (v := nI 0) dL_law_507 rfl ?_
  have q508 := sp_L_branches G M13 hO h13 (nI 0)
  rw [r_branch2 hV.2.2, w_2 A] at q508
  refine q_callHS C (q508) rfl kL_branches tL_branches lk_L_179 rfl rfl (Nat.le_of_ble_eq_true rfl) ⟨⟨(Nat.le_of_ble_eq_true rfl), (Nat.le_of_ble_eq_true rfl)⟩, (by show _ ≤ (699478 : Nat); simp only [gRm]; omega), (by show _ ≤ (6993413 : Nat); simp only [gRm]; omega)⟩ dL_law_508 (fun M14 h14 => ?_)
  have h14 : gRC A M14 := h14
  refine j_sipush C (v := (-1002)) dL_law_511 rfl ?_
  refine j_icmp_ne C 695 dL_law_514 (fun h => absurd rfl h) (fun _ => ?_) (by decide)
  refine j_aload_n C dL_law_517 rfl ?_
  refine j_iconst C (v := (-1)) dL_law_518 rfl ?_
  have q519 := sp_L_goes G M14 hO h14 (-1)
  rw [r_check A, w_1 A] at q519
  refine q_callHS C (q519) rfl kL_goes tL_goes lk_L_182 rfl rfl (Nat.le_of_ble_eq_true rfl) ⟨⟨(Nat.le_of_ble_eq_true rfl), (Nat.le_of_ble_eq_true rfl)⟩, (by show _ ≤ (699478 : Nat); simp only [gRm]; omega), (by show _ ≤ (6993413 : Nat); simp only [gRm]; omega)⟩ dL_law_519 (fun M15 h15 => ?_)
  have h15 : gRC A M15 := h15
  refine j_sipush C (v := (-1001)) dL_law_522 rfl ?_
  refine j_icmp_ne C 695 dL_law_525 (fun h => absurd rfl h) (fun _ => ?_) (by decide)
  refine j_aload_n C dL_law_528 rfl ?_
  refine j_iload C dL_law_529 rfl ?_
  have q531 := sp_L_resets G M15 hO h15 (nI (aN A))
  rw [r_reset hO.1, w_1 A] at q531
  refine q_callHS C (q531) rfl kL_resets tL_resets lk_L_190 rfl rfl (Nat.le_of_ble_eq_true rfl) ⟨⟨(Nat.le_of_ble_eq_true rfl), (Nat.le_of_ble_eq_true rfl)⟩, (by show _ ≤ (699478 : Nat); simp only [gRm]; omega), (by show _ ≤ (6993413 : Nat); simp only [gRm]; omega)⟩ dL_law_531 (fun M16 h16 => ?_)
  have h16 : gRC A M16 := h16
  refine j_sipush C (v := (-1001)) dL_law_534 rfl ?_
  refine j_icmp_ne C 695 dL_law_537 (fun h => absurd rfl h) (fun _ => ?_) (by decide)
  refine j_aload_n C dL_law_540 rfl ?_
  refine j_iconst C (v := nI 5) dL_law_541 rfl ?_
  have q542 := sp_L_merges G M16 hO h16 (nI 5)
  rw [r_merge1 A, w_1 A] at q542
  refine q_callHS C (q542) rfl kL_merges tL_merges lk_L_193 rfl rfl (Nat.le_of_ble_eq_true rfl) ⟨⟨(Nat.le_of_ble_eq_true rfl), (Nat.le_of_ble_eq_true rfl)⟩, (by show _ ≤ (699478 : Nat); simp only [gRm]; omega), (by show _ ≤ (6993413 : Nat); simp only [gRm]; omega)⟩ dL_law_542 (fun M17 h17 => ?_)
  have h17 : gRC A M17 := h17
  refine j_sipush C (v := (-1001)) dL_law_545 rfl ?_
  refine j_icmp_ne C 695 dL_law_548 (fun h => absurd rfl h) (fun _ => ?_) (by decide)
  refine j_aload_n C dL_law_551 rfl ?_
  refine j_iconst C (v := (-1)) dL_law_552 rfl ?_
  have q553 := sp_L_puts G M17 hO h17 (-1)
  rw [r_put1 A, w_1 A] at q553
  refine q_callHS C (q553) rfl kL_puts tL_puts lk_L_196 rfl rfl (Nat.le_of_ble_eq_true rfl) ⟨⟨(Nat.le_of_ble_eq_true rfl), (Nat.le_of_ble_eq_true rfl)⟩, (by show _ ≤ (699478 : Nat); simp only [gRm]; omega), (by show _ ≤ (6993413 : Nat); simp only [gRm]; omega)⟩ dL_law_553 (fun M18 h18 => ?_)
  have h18 : gRC A M18 := h18
  refine j_sipush C (v := (-1001)) dL_law_556 rfl ?_
  refine j_icmp_ne C 695 dL_law_559 (fun h => absurd rfl h) (fun _ => ?_) (by decide)
  refine j_aload_n C dL_law_562 rfl ?_
  refine j_iconst C (v := nI 5) dL_law_563 rfl ?_
  have q564 := sp_L_head G M18 hO h18 (nI 5)
  rw [r_head A, w_1 A] at q564
  refine q_callHS C (q564) rfl kL_head tL_head lk_L_122 rfl rfl (Nat.le_of_ble_eq_true rfl) ⟨⟨(Nat.le_of_ble_eq_true rfl), (Nat.le_of_ble_eq_true rfl)⟩, (by show _ ≤ (699478 : Nat); simp only [gRm]; omega), (by show _ ≤ (6993413 : Nat); simp only [gRm]; omega)⟩ dL_law_564 (fun M19 h19 => ?_)
  have h19 : gRC A M19 := h19
  refine j_sipush C (v := (-1001)) dL_law_567 rfl ?_
  refine j_icmp_ne C 695 dL_law_570 (fun h => absurd rfl h) (fun _ => ?_) (by decide)
  refine j_aload_n C dL_law_573 rfl ?_
  refine j_iload C dL_law_574 rfl ?_
  refine j_iconst C (v := nI 0) dL_law_576 rfl ?_
  have q577 := sp_L_had G M19 hO h19 (nI (aN A)) (nI 0)
  rw [r_had1 hO.1, w_1 A] at q577
  refine q_callHS C (q577) rfl kL_had tL_had lk_L_110 rfl rfl (Nat.le_of_ble_eq_true rfl) ⟨⟨(Nat.le_of_ble_eq_true rfl), (Nat.le_of_ble_eq_true rfl)⟩, (by show _ ≤ (699478 : Nat); simp only [gRm]; omega), (by show _ ≤ (6993413 : Nat); simp only [gRm]; omega)⟩ dL_law_577 (fun M20 h20 => ?_)
  have h20 : gRC A M20 := h20
  refine j_sipush C (v := (-1001)) dL_law_580 rfl ?_
  refine j_icmp_ne C 695 dL_law_583 (fun h => absurd rfl h) (fun _ => ?_) (by decide)
  refine j_aload_n C dL_law_586 rfl ?_
  refine j_iconst C (v := nI 0) dL_law_587 rfl ?_
  refine j_iconst C (v := nI 0) dL_law_588 rfl ?_
  have q589 := sp_L_had G M20 hO h20 (nI 0) (nI 0)
  rw [r_had2 hO.1 (hV.1.2 0 (by decide)), w_2 A] at q589
  refine q_callHS C (q589) rfl kL_had tL_had lk_L_110 rfl rfl (Nat.le_of_ble_eq_true rfl) ⟨⟨(Nat.le_of_ble_eq_true rfl), (Nat.le_of_ble_eq_true rfl)⟩, (by show _ ≤ (699478 : Nat); simp only [gRm]; omega), (by show _ ≤ (6993413 : Nat); simp only [gRm]; omega)⟩ dL_law_589 (fun M21 h21 => ?_)
  have h21 : gRC A M21 := h21
  refine j_sipush C (v := (-1002)) dL_law_592 rfl ?_
  refine j_icmp_ne C 695 dL_law_595 (fun h => absurd rfl h) (fun _ => ?_) (by decide)
  refine j_aload_n C dL_law_598 rfl ?_
  refine j_iconst C (v := nI 0) dL_law_599 rfl ?_
  refine j_iconst C (v := nI 2) dL_law_600 rfl ?_
  have q601 := sp_L_parent G M21 hO h21 (nI 0) (nI 2)
  rw [r_parent1 hO.1, w_1 A] at q601
  refine q_callHS C (q601) rfl kL_parent tL_parent lk_L_104 rfl rfl (Nat.le_of_ble_eq_true rfl) ⟨⟨(Nat.le_of_ble_eq_true rfl), (Nat.le_of_ble_eq_true rfl)⟩, (by show _ ≤ (699478 : Nat); simp only [gRm]; omega), (by show _ ≤ (6993413 : Nat); simp only [gRm]; omega)⟩ dL_law_601 (fun M22 h22 => ?_)
  have h22 : gRC A M22 := h22
  refine j_sipush C (v := (-1001)) dL_law_604 rfl ?_
  refine j_icmp_ne C 695 dL_law_607 (fun h => absurd rfl h) (fun _ => ?_) (by decide)
  refine j_aload_n C dL_law_610 rfl ?_
  refine j_iconst C (v := nI 0) dL_law_611 rfl ?_
  refine j_iconst C (v := nI 0) dL_law_612 rfl ?_
  have q613 := sp_L_parent G M22 hO h22 (nI 0) (nI 0)
  rw [r_parent2 hO.1, w_2 A] at q613
  refine q_callHS C (q613) rfl kL_parent tL_parent lk_L_104 rfl rfl (Nat.le_of_ble_eq_true rfl) ⟨⟨(Nat.le_of_ble_eq_true rfl), (Nat.le_of_ble_eq_true rfl)⟩, (by show _ ≤ (699478 : Nat); simp only [gRm]; omega), (by show _ ≤ (6993413 : Nat); simp only [gRm]; omega)⟩ dL_law_613 (fun M23 h23 => ?_)
  have h23 : gRC A M23 := h23
  refine j_sipush C (v := (-1002)) dL_law_616 rfl ?_
  refine j_icmp_ne C 695 dL_law_619 (fun h => absurd rfl h) (fun _ => ?_) (by decide)
  refine j_aload_n C dL_law_622 rfl ?_
  refine j_iconst C (v := nI 0) dL_law_623 rfl ?_
  refine j_iconst C (v := nI 0) dL_law_624 rfl ?_
  refine j_bipush C (v := nI 8) dL_law_625 rfl ?_
  have q627 := sp_L_moved G M23 hO h23 (nI 0) (nI 0) (nI 8)
  rw [r_moved1 hO.1, w_1 A] at q627
  refine q_callHS C (q627) rfl kL_moved tL_moved lk_L_207 rfl rfl (Nat.le_of_ble_eq_true rfl) ⟨⟨(Nat.le_of_ble_eq_true rfl), (Nat.le_of_ble_eq_true rfl)⟩, (by show _ ≤ (699478 : Nat); simp only [gRm]; omega), (by show _ ≤ (6993413 : Nat); simp only [gRm]; omega)⟩ dL_law_627 (fun M24 h24 => ?_)
  have h24 : gRC A M24 := h24
  refine j_sipush C (v := (-1001)) dL_law_630 rfl ?_
  refine j_icmp_ne C 695 dL_law_633 (fun h => absurd rfl h) (fun _ => ?_) (by decide)
  refine j_aload_n C dL_law_636 rfl ?_
  refine j_iconst C (v := nI 0) dL_law_637 rfl ?_
  refine j_iconst C (v := nI 0) dL_law_638 rfl ?_
  refine j_iconst C (v := nI 0) dL_law_639 rfl ?_
  have q640 := sp_L_moved G M24 hO h24 (nI 0) (nI 0) (nI 0)
  rw [r_moved2 hO.1, w_2 A] at q640
  refine q_callHS C (q640) rfl kL_moved tL_moved lk_L_207 rfl rfl (Nat.le_of_ble_eq_true rfl) ⟨⟨(Nat.le_of_ble_eq_true rfl), (Nat.le_of_ble_eq_true rfl)⟩, (by show _ ≤ (699478 : Nat); simp only [gRm]; omega), (by show _ ≤ (6993413 : Nat); simp only [gRm]; omega)⟩ dL_law_640 (fun M25 h25 => ?_)
  have h25 : gRC A M25 := h25
  refine j_sipush C (v := (-1002)) dL_law_643 rfl ?_
  refine j_icmp_ne C 695 dL_law_646 (fun h => absurd rfl h) (fun _ => ?_) (by decide)
  refine j_aload_n C dL_law_649 rfl ?_
  refine j_bipush C (v := nI 8) dL_law_650 rfl ?_
  have q652 := sp_L_last G M25 hO h25 (nI 8)
  rw [r_last A, w_1 A] at q652
  refine q_callHS C (q652) rfl kL_last tL_last lk_L_119 rfl rfl (Nat.le_of_ble_eq_true rfl) ⟨⟨(Nat.le_of_ble_eq_true rfl), (Nat.le_of_ble_eq_true rfl)⟩, (by show _ ≤ (699478 : Nat); simp only [gRm]; omega), (by show _ ≤ (6993413 : Nat); simp only [gRm]; omega)⟩ dL_law_652 (fun M26 h26 => ?_)
  have h26 : gRC A M26 := h26
  refine j_sipush C (v := (-1001)) dL_law_655 rfl ?_
  refine j_icmp_ne C 695 dL_law_658 (fun h => absurd rfl h) (fun _ => ?_) (by decide)
  refine j_aload_n C dL_law_661 rfl ?_
  refine j_iconst C (v := (-1)) dL_law_662 rfl ?_
  have q663 := sp_L_depth G M26 hO h26 (-1)
  rw [r_depth hO.1, w_1 A] at q663
  refine q_callHS C (q663) rfl kL_depth tL_depth lk_L_146 rfl rfl (Nat.le_of_ble_eq_true rfl) ⟨⟨(Nat.le_of_ble_eq_true rfl), (Nat.le_of_ble_eq_true rfl)⟩, (by show _ ≤ (699478 : Nat); simp only [gRm]; omega), (by show _ ≤ (6993413 : Nat); simp only [gRm]; omega)⟩ dL_law_663 (fun M27 h27 => ?_)
  have h27 : gRC A M27 := h27
  refine j_sipush C (v := (-1001)) dL_law_666 rfl ?_
  refine j_icmp_ne C 695 dL_law_669 (fun h => absurd rfl h) (fun _ => ?_) (by decide)
  refine j_aload_n C dL_law_672 rfl ?_
  refine j_sipush C (v := nI 10000) dL_law_673 rfl ?_
  have q676 := sp_L_from G M27 hO h27 (nI 10000)
  rw [r_from hO.1, w_1 A] at q676
  refine q_callHS C (q676) rfl kL_from tL_from lk_L_149 rfl rfl (Nat.le_of_ble_eq_true rfl) ⟨⟨(Nat.le_of_ble_eq_true rfl), (Nat.le_of_ble_eq_true rfl)⟩, (by show _ ≤ (699478 : Nat); simp only [gRm]; omega), (by show _ ≤ (6993413 : Nat); simp only [gRm]; omega)⟩ dL_law_676 (fun M28 h28 => ?_)
  have h28 : gRC A M28 := h28
  refine j_sipush C (v := (-1001)) dL_law_679 rfl ?_
  refine j_icmp_ne C 695 dL_law_682 (fun h => absurd rfl h) (fun _ => ?_) (by decide)
  refine j_aload_n C dL_law_685 rfl ?_
  refine q_callSS C (sp_L_sum G M28 hO h28) vL_sum lk_L_160 rfl rfl (Nat.le_of_ble_eq_true rfl) ⟨⟨(Nat.le_of_ble_eq_true rfl), (Nat.le_of_ble_eq_true rfl)⟩, (by show _ ≤ (699478 : Nat); simp only [gRm]; omega), (by show _ ≤ (6993413 : Nat); simp only [gRm]; omega)⟩ dL_law_686 (fun M29 h29 => ?_)
  refine j_lload C dL_law_689 rfl ?_
  refine j_lcmp C dL_law_691 ?_
  refine j_if_eq C 697 dL_law_692 (fun _ => ?_) (fun h => absurd (lg_eq rfl) h) (by decide)
  refine j_aload_n C dL_law_697 rfl ?_
  refine j_aload_n C dL_law_698 rfl ?_
  refine q_callV C (sp_X6_currentBranch G M29 h29) vX6_currentBranch lk_L_85 rfl (by decide) rfl rfl (Nat.le_of_ble_eq_true rfl) ⟨⟨(Nat.le_of_ble_eq_true rfl), (Nat.le_of_ble_eq_true rfl)⟩, (by show _ ≤ (699478 : Nat); simp only [gRm]; omega), (by show _ ≤ (6993413 : Nat); simp only [gRm]; omega)⟩ dL_law_699 ?_
  have q702 := sp_L_merges G M29 hO h29 (nI (aC A))
  rw [r_merge3 hO, w_3 A] at q702
  refine q_callHS C (q702) rfl kL_merges tL_merges lk_L_193 rfl rfl (Nat.le_of_ble_eq_true rfl) ⟨⟨(Nat.le_of_ble_eq_true rfl), (Nat.le_of_ble_eq_true rfl)⟩, (by show _ ≤ (699478 : Nat); simp only [gRm]; omega), (by show _ ≤ (6993413 : Nat); simp only [gRm]; omega)⟩ dL_law_702 (fun M30 h30 => ?_)
  have h30 : gRC A M30 := h30
  refine j_sipush C (v := (-1003)) dL_law_705 rfl ?_
  refine j_icmp_ne C 739 dL_law_708 (fun h => absurd rfl h) (fun _ => ?_) (by decide)
  refine j_aload_n C dL_law_711 rfl ?_
  refine j_aload_n C dL_law_712 rfl ?_
  refine q_callV C (sp_X6_currentBranch G M30 h30) vX6_currentBranch lk_L_85 rfl (by decide) rfl rfl (Nat.le_of_ble_eq_true rfl) ⟨⟨(Nat.le_of_ble_eq_true rfl), (Nat.le_of_ble_eq_true rfl)⟩, (by show _ ≤ (699478 : Nat); simp only [gRm]; omega), (by show _ ≤ (6993413 : Nat); simp only [gRm]; omega)⟩ dL_law_713 ?_
  have q716 := sp_L_puts G M30 hO h30 (nI (aC A))
  rw [r_put3 hO, w_3 A] at q716
  refine q_callHS C (q716) rfl kL_puts tL_puts lk_L_196 rfl rfl (Nat.le_of_ble_eq_true rfl) ⟨⟨(Nat.le_of_ble_eq_true rfl), (Nat.le_of_ble_eq_true rfl)⟩, (by show _ ≤ (699478 : Nat); simp only [gRm]; omega), (by show _ ≤ (6993413 : Nat); simp only [gRm]; omega)⟩ dL_law_716 (fun M31 h31 => ?_)
  have h31 : gRC A M31 := h31
  refine j_sipush C (v := (-1003)) dL_law_719 rfl ?_
  refine j_icmp_ne C 739 dL_law_722 (fun h => absurd rfl h) (fun _ => ?_) (by decide)
  refine j_aload_n C dL_law_725 rfl ?_
  refine q_callSS C (sp_L_sum G M31 hO h31) vL_sum lk_L_160 rfl rfl (Nat.le_of_ble_eq_true rfl) ⟨⟨(Nat.le_of_ble_eq_true rfl), (Nat.le_of_ble_eq_true rfl)⟩, (by show _ ≤ (699478 : Nat); simp only [gRm]; omega), (by show _ ≤ (6993413 : Nat); simp only [gRm]; omega)⟩ dL_law_726 (fun M32 h32 => ?_)
  refine j_lload C dL_law_729 rfl ?_
  refine j_lcmp C dL_law_731 ?_
  refine j_if_ne C 739 dL_law_732 (fun h => absurd (lg_eq rfl) h) (fun _ => ?_) (by decide)
  refine j_iconst C (v := nI 1) dL_law_735 rfl ?_
  refine j_goto C 740 dL_law_736 ?_ (by decide)
  exact hend _ _ _ _ (by show _ ≤ (699478 : Nat); simp only [gRm]; omega) (by show _ ≤ (6993413 : Nat); simp only [gRm]; omega)

/-! the law's cases -/
set_option maxHeartbeats 4000000 in
set_option maxRecDepth 100000 in
theorem k_number {p : Program} {l : Launch} {e : Env} {s : State} {m : MethodId} {args : Array Value} {below : List Frame} {meth : Method} {c : Code} {A : Nat → Prop} {G : jG} {Q : State → Prop} {b L n : Nat} {xs : Nat → Int32} {h h2 : Nat → Nat} {o od : Nat} {FC : Nat → Nat → Int} {VC : Nat → Int} {FM : Nat → Nat → Int} {VM fd fo : Nat → Int} {fdd : Nat → UInt64}
    (hh : jOK p s m args meth c A G cL_law wsL_law RL 9) (hnc : ∀ E ∈ jEX, ∀ nm ∈ jEX, E ≠ nm → va_Nc E nm s) (hlt : l.stackTraces = false) (hX : va_X b L xs s s.heap) (hbl : b < s.heap.size) (hbA : ¬ A b) (hn : 5 * n + 5 ≤ L) (hL : L ≤ 2560) (hI : Inv FC VC FM VM)
    (next : ∀ (FC : Nat → Nat → Int) (VC : Nat → Int) (FM : Nat → Nat → Int) (VM fd fo : Nat → Int) (fdd : Nat → UInt64), Inv FC VC FM VM → J p l e room_1 s m args below meth c A G 9 (37 + (n + 1)) (1592 + 6 * (n + 1)) Q (wQ G h FC VC h2 FM VM fd o fo od fdd) 1554 [(0, .ref b), (1, .ref (h 0)), (2, .ref (h2 0)), (3, .ref o), (4, .ref od), (5, .int (iI ((5 * n : Nat) : Int)))] []) : J p l e room_1 s m args below meth c A G 9 (37 + n) (1592 + 6 * n) Q (wQ G h FC VC h2 FM VM fd o fo od fdd) 578 [(0, .ref b), (1, .ref (h 0)), (2, .ref (h2 0)), (3, .ref o), (4, .ref od), (5, .int (iI ((5 * n : Nat) : Int)))] [] := by
  have hok := okC_of hI
  have hown := inv_own hI
  refine jr_aload_n (pc := 578) hh 1 dL_law_578 rfl rfl ?_
  refine jr_aload_n (pc := 579) hh 0 dL_law_579 rfl rfl ?_
  refine jr_iload (pc := 580) hh 5 dL_law_580 rfl ?_
  refine jr_iconst (pc := 582) hh dL_law_582 ?_
  refine jr_iadd (pc := 583) hh dL_law_583 ?_
  refine jr_sld (pc := 584) hh hX hbl hbA (5 * n + 1) (by omega) (by omega) (by omega) dL_law_584 ?_
  refine jr_aload_n (pc := 585) hh 0 dL_law_585 rfl rfl ?_
  refine jr_iload (pc := 586) hh 5 dL_law_586 rfl ?_
  refine jr_iconst (pc := 588) hh dL_law_588 ?_
  refine jr_iadd (pc := 589) hh dL_law_589 ?_
  refine jr_sld (pc := 590) hh hX hbl hbA (5 * n + 2) (by omega) (by omega) (by omega) dL_law_590 ?_
  refine jr_aload_n (pc := 591) hh 0 dL_law_591 rfl rfl ?_
  refine jr_iload (pc := 592) hh 5 dL_law_592 rfl ?_
  refine jr_iconst (pc := 594) hh dL_law_594 ?_
  refine jr_iadd (pc := 595) hh dL_law_595 ?_
  refine jr_sld (pc := 596) hh hX hbl hbA (5 * n + 3) (by omega) (by omega) (by omega) dL_law_596 ?_
  refine jr_aload_n (pc := 597) hh 3 dL_law_597 rfl rfl ?_
  refine jr_callSL (pc := 598) hh hnc [.ref (h 0), .int (iI (xs (5 * n + 1)).toInt), .int (iI (xs (5 * n + 2)).toInt), .int (iI (xs (5 * n + 3)).toInt), .ref o] [] (w_number l hlt G h FC VC o fo ((xs (5 * n + 1)).toInt) ((xs (5 * n + 2)).toInt) ((xs (5 * n + 3)).toInt) (iI_range _) (iI_range _) (iI_range _) hok) gL_law_L_number rfl (by decide) ⟨by show 37 + n + 1 ≤ 3130; omega, by show 1592 + 6 * n + 6 ≤ 120502; omega⟩ [0, 1, 2, 3, 4, 5, 6, 7, 8, 9, 10, 11, 12, 13, 14, 15, 16, 17, 35] [18, 19, 20, 21, 22, 23, 24, 25, 26, 27, 28, 29, 30, 31, 32, 33, 34, 36] rfl rfl rfl rfl (by decide) 5 rfl rfl (Nat.le_of_ble_eq_true rfl) (by decide +kernel) dL_law_598 (fun rv1 w1 hw1 => ?_)
  obtain ⟨rfl, FC', VC', fo', rfl, hc1, hc2⟩ := hw1
  generalize hcdC : cdNumber (VC 0) (VC 2) ((xs (5 * n + 1)).toInt) ((xs (5 * n + 2)).toInt) ((xs (5 * n + 3)).toInt) (enc (nmC FC ((xs (5 * n + 1)).toInt).toNat ((xs (5 * n + 3)).toInt).toNat 6 ((xs (5 * n + 2)).toInt).toNat)) = kC at hc1 hc2
  refine jr_perm (ws' := (wQ G h FC' VC' h2 FM VM fd o fo' od fdd)) (st := [.int (iI kC)]) [18, 19, 20, 21, 22, 23, 24, 25, 26, 27, 28, 29, 30, 31, 32, 33, 34, 35, 0, 1, 2, 3, 4, 5, 6, 7, 8, 9, 10, 11, 12, 13, 14, 15, 16, 36, 17] rfl rfl ?_
  refine jr_istore (lv' := [(6, .int (iI kC)), (0, .ref b), (1, .ref (h 0)), (2, .ref (h2 0)), (3, .ref o), (4, .ref od), (5, .int (iI ((5 * n : Nat) : Int)))]) (pc := 601) hh dL_law_601 (by decide) rfl ?_
  refine jr_aload_n (pc := 603) hh 3 dL_law_603 rfl rfl ?_
  refine jr_aload_n (pc := 604) hh 1 dL_law_604 rfl rfl ?_
  refine jr_iload (pc := 605) hh 6 dL_law_605 rfl ?_
  refine jr_iconst (pc := 607) hh dL_law_607 ?_
  refine jr_iadd (pc := 608) hh dL_law_608 ?_
  refine jr_sld (pc := 609) hh hX hbl hbA (5 * n + 1) (by omega) (by omega) (by omega) dL_law_609 ?_
  refine jr_aload_n (pc := 610) hh 1 dL_law_610 rfl rfl ?_
  refine jr_iload (pc := 611) hh 6 dL_law_611 rfl ?_
  refine jr_iconst (pc := 613) hh dL_law_613 ?_
  refine jr_iadd (pc := 614) hh dL_law_614 ?_
  refine jr_sld (pc := 615) hh hX hbl hbA (5 * n + 2) (by omega) (by omega) (by omega) dL_law_615 ?_
  refine jr_aload_n (pc := 616) hh 1 dL_law_616 rfl rfl ?_
  refine jr_iload (pc := 617) hh 6 dL_law_617 rfl ?_
  refine jr_iconst (pc := 619) hh dL_law_619 ?_
  refine jr_iadd (pc := 620) hh dL_law_620 ?_
  refine jr_sld (pc := 621) hh hX hbl hbA (5 * n + 3) (by omega) (by omega) (by omega) dL_law_621 ?_
  refine jr_callV (pc := 622) hh [.int (iI (xs (5 * n + 1)).toInt), .int (iI (xs (5 * n + 2)).toInt), .int (iI (xs (5 * n + 3)).toInt)] [] (c_X4_number l G h2 FM VM fd ((xs (5 * n + 1)).toInt) ((xs (5 * n + 2)).toInt) ((xs (5 * n + 3)).toInt) (iI_range _) (iI_range _) (iI_range _) hI.1) gL_law_X4_number rfl (by decide) ⟨by show 37 + n + 1 + 0 ≤ 3130; omega, by show 1592 + 6 * n + 6 + 0 ≤ 120502; omega⟩ [18, 19, 20, 21, 22, 23, 24, 25, 26, 27, 28, 29, 30, 31, 32, 33, 34] [0, 1, 2, 3, 4, 5, 6, 7, 8, 9, 10, 11, 12, 13, 14, 15, 16, 17, 35, 36] rfl rfl rfl rfl (by decide) 0 rfl rfl 3 rfl rfl (Nat.le_of_ble_eq_true rfl) (by decide +kernel) dL_law_622 (fun rv2 w2 hw2 => ?_)
  obtain ⟨v, FM', VM', fd', rfl, rfl, hm1, hm2⟩ := hw2
  rw [← hcdC] at hc1 hc2
  have hop := op_number hI hc1 hc2 hm1 hm2
  rw [hcdC] at hop
  obtain ⟨h0, hkr, hval, hI2⟩ := hop
  refine jr_perm (ws' := (wQ G h FC' VC' h2 FM' VM' fd' o fo' od fdd)) (st := [.int (iI v)]) [0, 1, 2, 3, 4, 5, 6, 7, 8, 9, 10, 11, 12, 13, 14, 15, 16, 17, 20, 21, 22, 23, 24, 25, 26, 27, 28, 29, 30, 31, 32, 33, 34, 35, 36, 18, 19] rfl rfl ?_
  refine jr_istore (lv' := [(7, .int (iI v)), (6, .int (iI kC)), (0, .ref b), (1, .ref (h 0)), (2, .ref (h2 0)), (3, .ref o), (4, .ref od), (5, .int (iI ((5 * n : Nat) : Int)))]) (pc := 625) hh dL_law_625 (by decide) rfl ?_
  refine jr_aload_n (pc := 627) hh 4 dL_law_627 rfl rfl ?_
  refine jr_callV (pc := 628) hh [] [] (c_X4_thrown l G h2 FM' VM' fd') gL_law_X4_thrown rfl (by decide) ⟨by show 37 + n + 1 + 0 + 0 ≤ 3130; omega, by show 1592 + 6 * n + 6 + 0 + 0 ≤ 120502; omega⟩ [18, 19, 20, 21, 22, 23, 24, 25, 26, 27, 28, 29, 30, 31, 32, 33, 34] [0, 1, 2, 3, 4, 5, 6, 7, 8, 9, 10, 11, 12, 13, 14, 15, 16, 17, 35, 36] rfl rfl rfl rfl (by decide) 0 rfl rfl 0 rfl rfl (Nat.le_of_ble_eq_true rfl) (by decide +kernel) dL_law_628 (fun rv3 w3 hw3 => ?_)
  obtain ⟨rfl, rfl⟩ := hw3
  refine jr_perm (ws' := (wQ G h FC' VC' h2 FM' VM' fd' o fo' od fdd)) (st := [.int (iI (VM' 0))]) [0, 1, 2, 3, 4, 5, 6, 7, 8, 9, 10, 11, 12, 13, 14, 15, 16, 17, 20, 21, 22, 23, 24, 25, 26, 27, 28, 29, 30, 31, 32, 33, 34, 35, 36, 18, 19] rfl rfl ?_
  refine jr_topi (b := kC) h0 ?_
  refine jr_iload (pc := 631) hh 1 dL_law_631 rfl ?_
  refine jr_icmp_eq (tgt := 638) (pc := 633) hh dL_law_633 (by decide) ⟨by omega, by omega⟩ ⟨by omega, by omega⟩ (fun _ => ?_) (fun c9 => absurd rfl c9)
  refine jr_iload (pc := 638) hh 1 dL_law_638 rfl ?_
  refine jr_if_ne (tgt := 655) (pc := 640) hh dL_law_640 (by decide) ⟨by omega, by omega⟩ (fun _ => ?_) (fun c9 => ?_)
  · skip
    refine jr_goto (tgt := 1554) (pc := 655) hh dL_law_655 (by decide) ?_
    refine jr_loc (lv' := [(0, .ref b), (1, .ref (h 0)), (2, .ref (h2 0)), (3, .ref o), (4, .ref od), (5, .int (iI ((5 * n : Nat) : Int)))]) [2, 3, 4, 5, 6, 7] rfl ?_
    exact jr_room (by show 37 + n + 1 + 0 + 0 ≤ 37 + (n + 1); omega) (by show 1592 + 6 * n + 6 + 0 + 0 ≤ 1592 + 6 * (n + 1); omega) (next FC' VC' FM' VM' fd' fo' fdd hI2)
  · skip
    obtain ⟨hv1, hv2⟩ := hval c9
    have hv3 := hv2.1
    have hv4 := hv2.2
    refine jr_aload_n (pc := 643) hh 5 dL_law_643 rfl rfl ?_
    refine jr_iconst (pc := 644) hh dL_law_644 ?_
    refine jr_lald (F := fo') (pc := 645) hh 35 rfl 0 rfl (by decide) (by decide) dL_law_645 ?_
    refine jr_iload (pc := 646) hh 0 dL_law_646 rfl ?_
    refine jr_i2l (pc := 648) hh dL_law_648 ⟨hv3, hv4⟩ ?_
    refine jr_lcmp_eq (tgt := 655) (pc := 649) hh dL_law_649 dL_law_650 (by decide) ⟨by omega, by omega⟩ ⟨by omega, by omega⟩ (fun _ => ?_) (fun c8 => absurd hv1 c8)
    refine jr_goto (tgt := 1554) (pc := 655) hh dL_law_655 (by decide) ?_
    refine jr_loc (lv' := [(0, .ref b), (1, .ref (h 0)), (2, .ref (h2 0)), (3, .ref o), (4, .ref od), (5, .int (iI ((5 * n : Nat) : Int)))]) [2, 3, 4, 5, 6, 7] rfl ?_
    exact jr_room (by show 37 + n + 1 + 0 + 0 ≤ 37 + (n + 1); omega) (by show 1592 + 6 * n + 6 + 0 + 0 ≤ 1592 + 6 * (n + 1); omega) (next FC' VC' FM' VM' fd' fo' fdd hI2)
set_option maxHeartbeats 4000000 in
set_option maxRecDepth 100000 in
theorem k_numberByHand {p : Program} {l : Launch} {e : Env} {s : State} {m : MethodId} {args : Array Value} {below : List Frame} {meth : Method} {c : Code} {A : Nat → Prop} {G : jG} {Q : State → Prop} {b L n : Nat} {xs : Nat → Int32} {h h2 : Nat → Nat} {o od : Nat} {FC : Nat → Nat → Int} {VC : Nat → Int} {FM : Nat → Nat → Int} {VM fd fo : Nat → Int} {fdd : Nat → UInt64}
    (hh : jOK p s m args meth c A G cL_law wsL_law RL 9) (hnc : ∀ E ∈ jEX, ∀ nm ∈ jEX, E ≠ nm → va_Nc E nm s) (hlt : l.stackTraces = false) (hX : va_X b L xs s s.heap) (hbl : b < s.heap.size) (hbA : ¬ A b) (hn : 5 * n + 5 ≤ L) (hL : L ≤ 2560) (hI : Inv FC VC FM VM)
    (next : ∀ (FC : Nat → Nat → Int) (VC : Nat → Int) (FM : Nat → Nat → Int) (VM fd fo : Nat → Int) (fdd : Nat → UInt64), Inv FC VC FM VM → J p l e room_1 s m args below meth c A G 9 (37 + (n + 1)) (1592 + 6 * (n + 1)) Q (wQ G h FC VC h2 FM VM fd o fo od fdd) 1554 [(0, .ref b), (1, .ref (h 0)), (2, .ref (h2 0)), (3, .ref o), (4, .ref od), (5, .int (iI ((5 * n : Nat) : Int)))] []) : J p l e room_1 s m args below meth c A G 9 (37 + n) (1592 + 6 * n) Q (wQ G h FC VC h2 FM VM fd o fo od fdd) 658 [(0, .ref b), (1, .ref (h 0)), (2, .ref (h2 0)), (3, .ref o), (4, .ref od), (5, .int (iI ((5 * n : Nat) : Int)))] [] := by
  have hok := okC_of hI
  have hown := inv_own hI
  refine jr_aload_n (pc := 658) hh 1 dL_law_658 rfl rfl ?_
  refine jr_aload_n (pc := 659) hh 0 dL_law_659 rfl rfl ?_
  refine jr_iload (pc := 660) hh 5 dL_law_660 rfl ?_
  refine jr_iconst (pc := 662) hh dL_law_662 ?_
  refine jr_iadd (pc := 663) hh dL_law_663 ?_
  refine jr_sld (pc := 664) hh hX hbl hbA (5 * n + 1) (by omega) (by omega) (by omega) dL_law_664 ?_
  refine jr_aload_n (pc := 665) hh 0 dL_law_665 rfl rfl ?_
  refine jr_iload (pc := 666) hh 5 dL_law_666 rfl ?_
  refine jr_iconst (pc := 668) hh dL_law_668 ?_
  refine jr_iadd (pc := 669) hh dL_law_669 ?_
  refine jr_sld (pc := 670) hh hX hbl hbA (5 * n + 2) (by omega) (by omega) (by omega) dL_law_670 ?_
  refine jr_aload_n (pc := 671) hh 0 dL_law_671 rfl rfl ?_
  refine jr_iload (pc := 672) hh 5 dL_law_672 rfl ?_
  refine jr_iconst (pc := 674) hh dL_law_674 ?_
  refine jr_iadd (pc := 675) hh dL_law_675 ?_
  refine jr_sld (pc := 676) hh hX hbl hbA (5 * n + 3) (by omega) (by omega) (by omega) dL_law_676 ?_
  refine jr_aload_n (pc := 677) hh 3 dL_law_677 rfl rfl ?_
  refine jr_callSL (pc := 678) hh hnc [.ref (h 0), .int (iI (xs (5 * n + 1)).toInt), .int (iI (xs (5 * n + 2)).toInt), .int (iI (xs (5 * n + 3)).toInt), .ref o] [] (w_numberByHand l hlt G h FC VC o fo ((xs (5 * n + 1)).toInt) ((xs (5 * n + 2)).toInt) ((xs (5 * n + 3)).toInt) (iI_range _) (iI_range _) (iI_range _) hok) gL_law_L_numberByHand rfl (by decide) ⟨by show 37 + n + 1 ≤ 3130; omega, by show 1592 + 6 * n + 6 ≤ 120502; omega⟩ [0, 1, 2, 3, 4, 5, 6, 7, 8, 9, 10, 11, 12, 13, 14, 15, 16, 17, 35] [18, 19, 20, 21, 22, 23, 24, 25, 26, 27, 28, 29, 30, 31, 32, 33, 34, 36] rfl rfl rfl rfl (by decide) 5 rfl rfl (Nat.le_of_ble_eq_true rfl) (by decide +kernel) dL_law_678 (fun rv1 w1 hw1 => ?_)
  obtain ⟨rfl, FC', VC', fo', rfl, hc1, hc2⟩ := hw1
  generalize hcdC : cdNumber (VC 0) (VC 2) ((xs (5 * n + 1)).toInt) ((xs (5 * n + 2)).toInt) ((xs (5 * n + 3)).toInt) (enc (nmC FC ((xs (5 * n + 1)).toInt).toNat ((xs (5 * n + 3)).toInt).toNat 6 ((xs (5 * n + 2)).toInt).toNat)) = kC at hc1 hc2
  refine jr_perm (ws' := (wQ G h FC' VC' h2 FM VM fd o fo' od fdd)) (st := [.int (iI kC)]) [18, 19, 20, 21, 22, 23, 24, 25, 26, 27, 28, 29, 30, 31, 32, 33, 34, 35, 0, 1, 2, 3, 4, 5, 6, 7, 8, 9, 10, 11, 12, 13, 14, 15, 16, 36, 17] rfl rfl ?_
  refine jr_istore (lv' := [(6, .int (iI kC)), (0, .ref b), (1, .ref (h 0)), (2, .ref (h2 0)), (3, .ref o), (4, .ref od), (5, .int (iI ((5 * n : Nat) : Int)))]) (pc := 681) hh dL_law_681 (by decide) rfl ?_
  refine jr_aload_n (pc := 683) hh 3 dL_law_683 rfl rfl ?_
  refine jr_aload_n (pc := 684) hh 1 dL_law_684 rfl rfl ?_
  refine jr_iload (pc := 685) hh 6 dL_law_685 rfl ?_
  refine jr_iconst (pc := 687) hh dL_law_687 ?_
  refine jr_iadd (pc := 688) hh dL_law_688 ?_
  refine jr_sld (pc := 689) hh hX hbl hbA (5 * n + 1) (by omega) (by omega) (by omega) dL_law_689 ?_
  refine jr_aload_n (pc := 690) hh 1 dL_law_690 rfl rfl ?_
  refine jr_iload (pc := 691) hh 6 dL_law_691 rfl ?_
  refine jr_iconst (pc := 693) hh dL_law_693 ?_
  refine jr_iadd (pc := 694) hh dL_law_694 ?_
  refine jr_sld (pc := 695) hh hX hbl hbA (5 * n + 2) (by omega) (by omega) (by omega) dL_law_695 ?_
  refine jr_aload_n (pc := 696) hh 1 dL_law_696 rfl rfl ?_
  refine jr_iload (pc := 697) hh 6 dL_law_697 rfl ?_
  refine jr_iconst (pc := 699) hh dL_law_699 ?_
  refine jr_iadd (pc := 700) hh dL_law_700 ?_
  refine jr_sld (pc := 701) hh hX hbl hbA (5 * n + 3) (by omega) (by omega) (by omega) dL_law_701 ?_
  refine jr_callV (pc := 702) hh [.int (iI (xs (5 * n + 1)).toInt), .int (iI (xs (5 * n + 2)).toInt), .int (iI (xs (5 * n + 3)).toInt)] [] (c_X4_numberByHand l G h2 FM VM fd ((xs (5 * n + 1)).toInt) ((xs (5 * n + 2)).toInt) ((xs (5 * n + 3)).toInt) (iI_range _) (iI_range _) (iI_range _) hI.1) gL_law_X4_numberByHand rfl (by decide) ⟨by show 37 + n + 1 + 0 ≤ 3130; omega, by show 1592 + 6 * n + 6 + 0 ≤ 120502; omega⟩ [18, 19, 20, 21, 22, 23, 24, 25, 26, 27, 28, 29, 30, 31, 32, 33, 34] [0, 1, 2, 3, 4, 5, 6, 7, 8, 9, 10, 11, 12, 13, 14, 15, 16, 17, 35, 36] rfl rfl rfl rfl (by decide) 0 rfl rfl 3 rfl rfl (Nat.le_of_ble_eq_true rfl) (by decide +kernel) dL_law_702 (fun rv2 w2 hw2 => ?_)
  obtain ⟨v, FM', VM', fd', rfl, rfl, hm1, hm2⟩ := hw2
  rw [← hcdC] at hc1 hc2
  have hop := op_numberByHand hI hc1 hc2 hm1 hm2
  rw [hcdC] at hop
  obtain ⟨h0, hkr, hval, hI2⟩ := hop
  refine jr_perm (ws' := (wQ G h FC' VC' h2 FM' VM' fd' o fo' od fdd)) (st := [.int (iI v)]) [0, 1, 2, 3, 4, 5, 6, 7, 8, 9, 10, 11, 12, 13, 14, 15, 16, 17, 20, 21, 22, 23, 24, 25, 26, 27, 28, 29, 30, 31, 32, 33, 34, 35, 36, 18, 19] rfl rfl ?_
  refine jr_istore (lv' := [(7, .int (iI v)), (6, .int (iI kC)), (0, .ref b), (1, .ref (h 0)), (2, .ref (h2 0)), (3, .ref o), (4, .ref od), (5, .int (iI ((5 * n : Nat) : Int)))]) (pc := 705) hh dL_law_705 (by decide) rfl ?_
  refine jr_aload_n (pc := 707) hh 4 dL_law_707 rfl rfl ?_
  refine jr_callV (pc := 708) hh [] [] (c_X4_thrown l G h2 FM' VM' fd') gL_law_X4_thrown rfl (by decide) ⟨by show 37 + n + 1 + 0 + 0 ≤ 3130; omega, by show 1592 + 6 * n + 6 + 0 + 0 ≤ 120502; omega⟩ [18, 19, 20, 21, 22, 23, 24, 25, 26, 27, 28, 29, 30, 31, 32, 33, 34] [0, 1, 2, 3, 4, 5, 6, 7, 8, 9, 10, 11, 12, 13, 14, 15, 16, 17, 35, 36] rfl rfl rfl rfl (by decide) 0 rfl rfl 0 rfl rfl (Nat.le_of_ble_eq_true rfl) (by decide +kernel) dL_law_708 (fun rv3 w3 hw3 => ?_)
  obtain ⟨rfl, rfl⟩ := hw3
  refine jr_perm (ws' := (wQ G h FC' VC' h2 FM' VM' fd' o fo' od fdd)) (st := [.int (iI (VM' 0))]) [0, 1, 2, 3, 4, 5, 6, 7, 8, 9, 10, 11, 12, 13, 14, 15, 16, 17, 20, 21, 22, 23, 24, 25, 26, 27, 28, 29, 30, 31, 32, 33, 34, 35, 36, 18, 19] rfl rfl ?_
  refine jr_topi (b := kC) h0 ?_
  refine jr_iload (pc := 711) hh 1 dL_law_711 rfl ?_
  refine jr_icmp_eq (tgt := 718) (pc := 713) hh dL_law_713 (by decide) ⟨by omega, by omega⟩ ⟨by omega, by omega⟩ (fun _ => ?_) (fun c9 => absurd rfl c9)
  refine jr_iload (pc := 718) hh 1 dL_law_718 rfl ?_
  refine jr_if_ne (tgt := 735) (pc := 720) hh dL_law_720 (by decide) ⟨by omega, by omega⟩ (fun _ => ?_) (fun c9 => ?_)
  · skip
    refine jr_goto (tgt := 1554) (pc := 735) hh dL_law_735 (by decide) ?_
    refine jr_loc (lv' := [(0, .ref b), (1, .ref (h 0)), (2, .ref (h2 0)), (3, .ref o), (4, .ref od), (5, .int (iI ((5 * n : Nat) : Int)))]) [2, 3, 4, 5, 6, 7] rfl ?_
    exact jr_room (by show 37 + n + 1 + 0 + 0 ≤ 37 + (n + 1); omega) (by show 1592 + 6 * n + 6 + 0 + 0 ≤ 1592 + 6 * (n + 1); omega) (next FC' VC' FM' VM' fd' fo' fdd hI2)
  · skip
    obtain ⟨hv1, hv2⟩ := hval c9
    have hv3 := hv2.1
    have hv4 := hv2.2
    refine jr_aload_n (pc := 723) hh 5 dL_law_723 rfl rfl ?_
    refine jr_iconst (pc := 724) hh dL_law_724 ?_
    refine jr_lald (F := fo') (pc := 725) hh 35 rfl 0 rfl (by decide) (by decide) dL_law_725 ?_
    refine jr_iload (pc := 726) hh 0 dL_law_726 rfl ?_
    refine jr_i2l (pc := 728) hh dL_law_728 ⟨hv3, hv4⟩ ?_
    refine jr_lcmp_eq (tgt := 735) (pc := 729) hh dL_law_729 dL_law_730 (by decide) ⟨by omega, by omega⟩ ⟨by omega, by omega⟩ (fun _ => ?_) (fun c8 => absurd hv1 c8)
    refine jr_goto (tgt := 1554) (pc := 735) hh dL_law_735 (by decide) ?_
    refine jr_loc (lv' := [(0, .ref b), (1, .ref (h 0)), (2, .ref (h2 0)), (3, .ref o), (4, .ref od), (5, .int (iI ((5 * n : Nat) : Int)))]) [2, 3, 4, 5, 6, 7] rfl ?_
    exact jr_room (by show 37 + n + 1 + 0 + 0 ≤ 37 + (n + 1); omega) (by show 1592 + 6 * n + 6 + 0 + 0 ≤ 1592 + 6 * (n + 1); omega) (next FC' VC' FM' VM' fd' fo' fdd hI2)
set_option maxHeartbeats 4000000 in
set_option maxRecDepth 100000 in
theorem k_year {p : Program} {l : Launch} {e : Env} {s : State} {m : MethodId} {args : Array Value} {below : List Frame} {meth : Method} {c : Code} {A : Nat → Prop} {G : jG} {Q : State → Prop} {b L n : Nat} {xs : Nat → Int32} {h h2 : Nat → Nat} {o od : Nat} {FC : Nat → Nat → Int} {VC : Nat → Int} {FM : Nat → Nat → Int} {VM fd fo : Nat → Int} {fdd : Nat → UInt64}
    (hh : jOK p s m args meth c A G cL_law wsL_law RL 9) (hnc : ∀ E ∈ jEX, ∀ nm ∈ jEX, E ≠ nm → va_Nc E nm s) (hlt : l.stackTraces = false) (hX : va_X b L xs s s.heap) (hbl : b < s.heap.size) (hbA : ¬ A b) (hn : 5 * n + 5 ≤ L) (hL : L ≤ 2560) (hI : Inv FC VC FM VM)
    (next : ∀ (FC : Nat → Nat → Int) (VC : Nat → Int) (FM : Nat → Nat → Int) (VM fd fo : Nat → Int) (fdd : Nat → UInt64), Inv FC VC FM VM → J p l e room_1 s m args below meth c A G 9 (37 + (n + 1)) (1592 + 6 * (n + 1)) Q (wQ G h FC VC h2 FM VM fd o fo od fdd) 1554 [(0, .ref b), (1, .ref (h 0)), (2, .ref (h2 0)), (3, .ref o), (4, .ref od), (5, .int (iI ((5 * n : Nat) : Int)))] []) : J p l e room_1 s m args below meth c A G 9 (37 + n) (1592 + 6 * n) Q (wQ G h FC VC h2 FM VM fd o fo od fdd) 738 [(0, .ref b), (1, .ref (h 0)), (2, .ref (h2 0)), (3, .ref o), (4, .ref od), (5, .int (iI ((5 * n : Nat) : Int)))] [] := by
  have hok := okC_of hI
  have hown := inv_own hI
  refine jr_aload_n (pc := 738) hh 1 dL_law_738 rfl rfl ?_
  refine jr_aload_n (pc := 739) hh 0 dL_law_739 rfl rfl ?_
  refine jr_iload (pc := 740) hh 5 dL_law_740 rfl ?_
  refine jr_iconst (pc := 742) hh dL_law_742 ?_
  refine jr_iadd (pc := 743) hh dL_law_743 ?_
  refine jr_sld (pc := 744) hh hX hbl hbA (5 * n + 1) (by omega) (by omega) (by omega) dL_law_744 ?_
  refine jr_aload_n (pc := 745) hh 0 dL_law_745 rfl rfl ?_
  refine jr_iload (pc := 746) hh 5 dL_law_746 rfl ?_
  refine jr_iconst (pc := 748) hh dL_law_748 ?_
  refine jr_iadd (pc := 749) hh dL_law_749 ?_
  refine jr_sld (pc := 750) hh hX hbl hbA (5 * n + 2) (by omega) (by omega) (by omega) dL_law_750 ?_
  refine jr_aload_n (pc := 751) hh 3 dL_law_751 rfl rfl ?_
  refine jr_callSL (pc := 752) hh hnc [.ref (h 0), .int (iI (xs (5 * n + 1)).toInt), .int (iI (xs (5 * n + 2)).toInt), .ref o] [] (w_year l hlt G h FC VC o fo ((xs (5 * n + 1)).toInt) ((xs (5 * n + 2)).toInt) (iI_range _) (iI_range _) hok) gL_law_L_year rfl (by decide) ⟨by show 37 + n + 1 ≤ 3130; omega, by show 1592 + 6 * n + 6 ≤ 120502; omega⟩ [0, 1, 2, 3, 4, 5, 6, 7, 8, 9, 10, 11, 12, 13, 14, 15, 16, 17, 35] [18, 19, 20, 21, 22, 23, 24, 25, 26, 27, 28, 29, 30, 31, 32, 33, 34, 36] rfl rfl rfl rfl (by decide) 4 rfl rfl (Nat.le_of_ble_eq_true rfl) (by decide +kernel) dL_law_752 (fun rv1 w1 hw1 => ?_)
  obtain ⟨rfl, FC', VC', fo', rfl, hc1, hc2⟩ := hw1
  generalize hcdC : cdYear (VC 0) (VC 2) ((xs (5 * n + 1)).toInt) ((xs (5 * n + 2)).toInt) (cntTo (yrX FC ((xs (5 * n + 1)).toInt).toNat ((xs (5 * n + 2)).toInt).toNat) (-1000000000) 12) = kC at hc1 hc2
  refine jr_perm (ws' := (wQ G h FC' VC' h2 FM VM fd o fo' od fdd)) (st := [.int (iI kC)]) [18, 19, 20, 21, 22, 23, 24, 25, 26, 27, 28, 29, 30, 31, 32, 33, 34, 35, 0, 1, 2, 3, 4, 5, 6, 7, 8, 9, 10, 11, 12, 13, 14, 15, 16, 36, 17] rfl rfl ?_
  refine jr_istore (lv' := [(6, .int (iI kC)), (0, .ref b), (1, .ref (h 0)), (2, .ref (h2 0)), (3, .ref o), (4, .ref od), (5, .int (iI ((5 * n : Nat) : Int)))]) (pc := 755) hh dL_law_755 (by decide) rfl ?_
  refine jr_aload_n (pc := 757) hh 3 dL_law_757 rfl rfl ?_
  refine jr_aload_n (pc := 758) hh 1 dL_law_758 rfl rfl ?_
  refine jr_iload (pc := 759) hh 6 dL_law_759 rfl ?_
  refine jr_iconst (pc := 761) hh dL_law_761 ?_
  refine jr_iadd (pc := 762) hh dL_law_762 ?_
  refine jr_sld (pc := 763) hh hX hbl hbA (5 * n + 1) (by omega) (by omega) (by omega) dL_law_763 ?_
  refine jr_aload_n (pc := 764) hh 1 dL_law_764 rfl rfl ?_
  refine jr_iload (pc := 765) hh 6 dL_law_765 rfl ?_
  refine jr_iconst (pc := 767) hh dL_law_767 ?_
  refine jr_iadd (pc := 768) hh dL_law_768 ?_
  refine jr_sld (pc := 769) hh hX hbl hbA (5 * n + 2) (by omega) (by omega) (by omega) dL_law_769 ?_
  refine jr_callV (pc := 770) hh [.int (iI (xs (5 * n + 1)).toInt), .int (iI (xs (5 * n + 2)).toInt)] [] (c_X4_year l G h2 FM VM fd ((xs (5 * n + 1)).toInt) ((xs (5 * n + 2)).toInt) (iI_range _) (iI_range _) hI.1) gL_law_X4_year rfl (by decide) ⟨by show 37 + n + 1 + 0 ≤ 3130; omega, by show 1592 + 6 * n + 6 + 0 ≤ 120502; omega⟩ [18, 19, 20, 21, 22, 23, 24, 25, 26, 27, 28, 29, 30, 31, 32, 33, 34] [0, 1, 2, 3, 4, 5, 6, 7, 8, 9, 10, 11, 12, 13, 14, 15, 16, 17, 35, 36] rfl rfl rfl rfl (by decide) 0 rfl rfl 2 rfl rfl (Nat.le_of_ble_eq_true rfl) (by decide +kernel) dL_law_770 (fun rv2 w2 hw2 => ?_)
  obtain ⟨v, FM', VM', fd', rfl, rfl, hm1, hm2⟩ := hw2
  rw [← hcdC] at hc1 hc2
  have hop := op_year hI hc1 hc2 hm1 hm2
  rw [hcdC] at hop
  obtain ⟨h0, hkr, hval, hI2⟩ := hop
  refine jr_perm (ws' := (wQ G h FC' VC' h2 FM' VM' fd' o fo' od fdd)) (st := [.long (lI v)]) [0, 1, 2, 3, 4, 5, 6, 7, 8, 9, 10, 11, 12, 13, 14, 15, 16, 17, 20, 21, 22, 23, 24, 25, 26, 27, 28, 29, 30, 31, 32, 33, 34, 35, 36, 18, 19] rfl rfl ?_
  refine jr_lstore (lv' := [(7, .long (lI v)), (6, .int (iI kC)), (0, .ref b), (1, .ref (h 0)), (2, .ref (h2 0)), (3, .ref o), (4, .ref od), (5, .int (iI ((5 * n : Nat) : Int)))]) (pc := 773) hh dL_law_773 (by decide) rfl ?_
  refine jr_aload_n (pc := 775) hh 4 dL_law_775 rfl rfl ?_
  refine jr_callV (pc := 776) hh [] [] (c_X4_thrown l G h2 FM' VM' fd') gL_law_X4_thrown rfl (by decide) ⟨by show 37 + n + 1 + 0 + 0 ≤ 3130; omega, by show 1592 + 6 * n + 6 + 0 + 0 ≤ 120502; omega⟩ [18, 19, 20, 21, 22, 23, 24, 25, 26, 27, 28, 29, 30, 31, 32, 33, 34] [0, 1, 2, 3, 4, 5, 6, 7, 8, 9, 10, 11, 12, 13, 14, 15, 16, 17, 35, 36] rfl rfl rfl rfl (by decide) 0 rfl rfl 0 rfl rfl (Nat.le_of_ble_eq_true rfl) (by decide +kernel) dL_law_776 (fun rv3 w3 hw3 => ?_)
  obtain ⟨rfl, rfl⟩ := hw3
  refine jr_perm (ws' := (wQ G h FC' VC' h2 FM' VM' fd' o fo' od fdd)) (st := [.int (iI (VM' 0))]) [0, 1, 2, 3, 4, 5, 6, 7, 8, 9, 10, 11, 12, 13, 14, 15, 16, 17, 20, 21, 22, 23, 24, 25, 26, 27, 28, 29, 30, 31, 32, 33, 34, 35, 36, 18, 19] rfl rfl ?_
  refine jr_topi (b := kC) h0 ?_
  refine jr_iload (pc := 779) hh 1 dL_law_779 rfl ?_
  refine jr_icmp_eq (tgt := 786) (pc := 781) hh dL_law_781 (by decide) ⟨by omega, by omega⟩ ⟨by omega, by omega⟩ (fun _ => ?_) (fun c9 => absurd rfl c9)
  refine jr_iload (pc := 786) hh 1 dL_law_786 rfl ?_
  refine jr_if_ne (tgt := 802) (pc := 788) hh dL_law_788 (by decide) ⟨by omega, by omega⟩ (fun _ => ?_) (fun c9 => ?_)
  · skip
    refine jr_goto (tgt := 1554) (pc := 802) hh dL_law_802 (by decide) ?_
    refine jr_loc (lv' := [(0, .ref b), (1, .ref (h 0)), (2, .ref (h2 0)), (3, .ref o), (4, .ref od), (5, .int (iI ((5 * n : Nat) : Int)))]) [2, 3, 4, 5, 6, 7] rfl ?_
    exact jr_room (by show 37 + n + 1 + 0 + 0 ≤ 37 + (n + 1); omega) (by show 1592 + 6 * n + 6 + 0 + 0 ≤ 1592 + 6 * (n + 1); omega) (next FC' VC' FM' VM' fd' fo' fdd hI2)
  · skip
    obtain ⟨hv1, hv2⟩ := hval c9
    have hv3 := hv2.1
    have hv4 := hv2.2
    refine jr_aload_n (pc := 791) hh 5 dL_law_791 rfl rfl ?_
    refine jr_iconst (pc := 792) hh dL_law_792 ?_
    refine jr_lald (F := fo') (pc := 793) hh 35 rfl 0 rfl (by decide) (by decide) dL_law_793 ?_
    refine jr_lload (pc := 794) hh 0 dL_law_794 rfl ?_
    refine jr_lcmp_eq (tgt := 802) (pc := 796) hh dL_law_796 dL_law_797 (by decide) ⟨by omega, by omega⟩ ⟨by omega, by omega⟩ (fun _ => ?_) (fun c8 => absurd hv1 c8)
    refine jr_goto (tgt := 1554) (pc := 802) hh dL_law_802 (by decide) ?_
    refine jr_loc (lv' := [(0, .ref b), (1, .ref (h 0)), (2, .ref (h2 0)), (3, .ref o), (4, .ref od), (5, .int (iI ((5 * n : Nat) : Int)))]) [2, 3, 4, 5, 6, 7] rfl ?_
    exact jr_room (by show 37 + n + 1 + 0 + 0 ≤ 37 + (n + 1); omega) (by show 1592 + 6 * n + 6 + 0 + 0 ≤ 1592 + 6 * (n + 1); omega) (next FC' VC' FM' VM' fd' fo' fdd hI2)
set_option maxHeartbeats 4000000 in
set_option maxRecDepth 100000 in
theorem k_effect {p : Program} {l : Launch} {e : Env} {s : State} {m : MethodId} {args : Array Value} {below : List Frame} {meth : Method} {c : Code} {A : Nat → Prop} {G : jG} {Q : State → Prop} {b L n : Nat} {xs : Nat → Int32} {h h2 : Nat → Nat} {o od : Nat} {FC : Nat → Nat → Int} {VC : Nat → Int} {FM : Nat → Nat → Int} {VM fd fo : Nat → Int} {fdd : Nat → UInt64}
    (hh : jOK p s m args meth c A G cL_law wsL_law RL 9) (hnc : ∀ E ∈ jEX, ∀ nm ∈ jEX, E ≠ nm → va_Nc E nm s) (hlt : l.stackTraces = false) (hX : va_X b L xs s s.heap) (hbl : b < s.heap.size) (hbA : ¬ A b) (hn : 5 * n + 5 ≤ L) (hL : L ≤ 2560) (hI : Inv FC VC FM VM)
    (next : ∀ (FC : Nat → Nat → Int) (VC : Nat → Int) (FM : Nat → Nat → Int) (VM fd fo : Nat → Int) (fdd : Nat → UInt64), Inv FC VC FM VM → J p l e room_1 s m args below meth c A G 9 (37 + (n + 1)) (1592 + 6 * (n + 1)) Q (wQ G h FC VC h2 FM VM fd o fo od fdd) 1554 [(0, .ref b), (1, .ref (h 0)), (2, .ref (h2 0)), (3, .ref o), (4, .ref od), (5, .int (iI ((5 * n : Nat) : Int)))] []) : J p l e room_1 s m args below meth c A G 9 (37 + n) (1592 + 6 * n) Q (wQ G h FC VC h2 FM VM fd o fo od fdd) 805 [(0, .ref b), (1, .ref (h 0)), (2, .ref (h2 0)), (3, .ref o), (4, .ref od), (5, .int (iI ((5 * n : Nat) : Int)))] [] := by
  have hok := okC_of hI
  have hown := inv_own hI
  refine jr_aload_n (pc := 805) hh 1 dL_law_805 rfl rfl ?_
  refine jr_aload_n (pc := 806) hh 0 dL_law_806 rfl rfl ?_
  refine jr_iload (pc := 807) hh 5 dL_law_807 rfl ?_
  refine jr_iconst (pc := 809) hh dL_law_809 ?_
  refine jr_iadd (pc := 810) hh dL_law_810 ?_
  refine jr_sld (pc := 811) hh hX hbl hbA (5 * n + 1) (by omega) (by omega) (by omega) dL_law_811 ?_
  refine jr_aload_n (pc := 812) hh 0 dL_law_812 rfl rfl ?_
  refine jr_iload (pc := 813) hh 5 dL_law_813 rfl ?_
  refine jr_iconst (pc := 815) hh dL_law_815 ?_
  refine jr_iadd (pc := 816) hh dL_law_816 ?_
  refine jr_sld (pc := 817) hh hX hbl hbA (5 * n + 2) (by omega) (by omega) (by omega) dL_law_817 ?_
  refine jr_aload_n (pc := 818) hh 0 dL_law_818 rfl rfl ?_
  refine jr_iload (pc := 819) hh 5 dL_law_819 rfl ?_
  refine jr_iconst (pc := 821) hh dL_law_821 ?_
  refine jr_iadd (pc := 822) hh dL_law_822 ?_
  refine jr_sld (pc := 823) hh hX hbl hbA (5 * n + 3) (by omega) (by omega) (by omega) dL_law_823 ?_
  refine jr_aload_n (pc := 824) hh 0 dL_law_824 rfl rfl ?_
  refine jr_iload (pc := 825) hh 5 dL_law_825 rfl ?_
  refine jr_iconst (pc := 827) hh dL_law_827 ?_
  refine jr_iadd (pc := 828) hh dL_law_828 ?_
  refine jr_sld (pc := 829) hh hX hbl hbA (5 * n + 4) (by omega) (by omega) (by omega) dL_law_829 ?_
  refine jr_aload_n (pc := 830) hh 3 dL_law_830 rfl rfl ?_
  refine jr_callSL (pc := 831) hh hnc [.ref (h 0), .int (iI (xs (5 * n + 1)).toInt), .int (iI (xs (5 * n + 2)).toInt), .int (iI (xs (5 * n + 3)).toInt), .int (iI (xs (5 * n + 4)).toInt), .ref o] [] (w_effect l hlt G h FC VC o fo ((xs (5 * n + 1)).toInt) ((xs (5 * n + 2)).toInt) ((xs (5 * n + 3)).toInt) ((xs (5 * n + 4)).toInt) (iI_range _) (iI_range _) (iI_range _) (iI_range _) hok) gL_law_L_effect rfl (by decide) ⟨by show 37 + n + 1 ≤ 3130; omega, by show 1592 + 6 * n + 6 ≤ 120502; omega⟩ [0, 1, 2, 3, 4, 5, 6, 7, 8, 9, 10, 11, 12, 13, 14, 15, 16, 17, 35] [18, 19, 20, 21, 22, 23, 24, 25, 26, 27, 28, 29, 30, 31, 32, 33, 34, 36] rfl rfl rfl rfl (by decide) 6 rfl rfl (Nat.le_of_ble_eq_true rfl) (by decide +kernel) dL_law_831 (fun rv1 w1 hw1 => ?_)
  obtain ⟨rfl, FC', VC', fo', rfl, hc1, hc2⟩ := hw1
  generalize hcdC : cdEffect (VC 0) (VC 3) (VC 2) ((xs (5 * n + 1)).toInt) ((xs (5 * n + 2)).toInt) ((xs (5 * n + 3)).toInt) ((xs (5 * n + 4)).toInt) (enc (nmC FC ((xs (5 * n + 1)).toInt).toNat ((xs (5 * n + 4)).toInt).toNat (((xs (5 * n + 2)).toInt).toNat + 1) ((xs (5 * n + 3)).toInt).toNat)) (enc (nmC FC ((xs (5 * n + 1)).toInt).toNat ((xs (5 * n + 4)).toInt).toNat ((xs (5 * n + 2)).toInt).toNat ((xs (5 * n + 3)).toInt).toNat)) = kC at hc1 hc2
  refine jr_perm (ws' := (wQ G h FC' VC' h2 FM VM fd o fo' od fdd)) (st := [.int (iI kC)]) [18, 19, 20, 21, 22, 23, 24, 25, 26, 27, 28, 29, 30, 31, 32, 33, 34, 35, 0, 1, 2, 3, 4, 5, 6, 7, 8, 9, 10, 11, 12, 13, 14, 15, 16, 36, 17] rfl rfl ?_
  refine jr_istore (lv' := [(6, .int (iI kC)), (0, .ref b), (1, .ref (h 0)), (2, .ref (h2 0)), (3, .ref o), (4, .ref od), (5, .int (iI ((5 * n : Nat) : Int)))]) (pc := 834) hh dL_law_834 (by decide) rfl ?_
  refine jr_aload_n (pc := 836) hh 3 dL_law_836 rfl rfl ?_
  refine jr_aload_n (pc := 837) hh 1 dL_law_837 rfl rfl ?_
  refine jr_iload (pc := 838) hh 6 dL_law_838 rfl ?_
  refine jr_iconst (pc := 840) hh dL_law_840 ?_
  refine jr_iadd (pc := 841) hh dL_law_841 ?_
  refine jr_sld (pc := 842) hh hX hbl hbA (5 * n + 1) (by omega) (by omega) (by omega) dL_law_842 ?_
  refine jr_aload_n (pc := 843) hh 1 dL_law_843 rfl rfl ?_
  refine jr_iload (pc := 844) hh 6 dL_law_844 rfl ?_
  refine jr_iconst (pc := 846) hh dL_law_846 ?_
  refine jr_iadd (pc := 847) hh dL_law_847 ?_
  refine jr_sld (pc := 848) hh hX hbl hbA (5 * n + 2) (by omega) (by omega) (by omega) dL_law_848 ?_
  refine jr_aload_n (pc := 849) hh 1 dL_law_849 rfl rfl ?_
  refine jr_iload (pc := 850) hh 6 dL_law_850 rfl ?_
  refine jr_iconst (pc := 852) hh dL_law_852 ?_
  refine jr_iadd (pc := 853) hh dL_law_853 ?_
  refine jr_sld (pc := 854) hh hX hbl hbA (5 * n + 3) (by omega) (by omega) (by omega) dL_law_854 ?_
  refine jr_aload_n (pc := 855) hh 1 dL_law_855 rfl rfl ?_
  refine jr_iload (pc := 856) hh 6 dL_law_856 rfl ?_
  refine jr_iconst (pc := 858) hh dL_law_858 ?_
  refine jr_iadd (pc := 859) hh dL_law_859 ?_
  refine jr_sld (pc := 860) hh hX hbl hbA (5 * n + 4) (by omega) (by omega) (by omega) dL_law_860 ?_
  refine jr_callV (pc := 861) hh [.int (iI (xs (5 * n + 1)).toInt), .int (iI (xs (5 * n + 2)).toInt), .int (iI (xs (5 * n + 3)).toInt), .int (iI (xs (5 * n + 4)).toInt)] [] (c_X4_effect l G h2 FM VM fd ((xs (5 * n + 1)).toInt) ((xs (5 * n + 2)).toInt) ((xs (5 * n + 3)).toInt) ((xs (5 * n + 4)).toInt) (iI_range _) (iI_range _) (iI_range _) (iI_range _) hI.1) gL_law_X4_effect rfl (by decide) ⟨by show 37 + n + 1 + 0 ≤ 3130; omega, by show 1592 + 6 * n + 6 + 0 ≤ 120502; omega⟩ [18, 19, 20, 21, 22, 23, 24, 25, 26, 27, 28, 29, 30, 31, 32, 33, 34] [0, 1, 2, 3, 4, 5, 6, 7, 8, 9, 10, 11, 12, 13, 14, 15, 16, 17, 35, 36] rfl rfl rfl rfl (by decide) 0 rfl rfl 4 rfl rfl (Nat.le_of_ble_eq_true rfl) (by decide +kernel) dL_law_861 (fun rv2 w2 hw2 => ?_)
  obtain ⟨v, FM', VM', fd', rfl, rfl, hm1, hm2⟩ := hw2
  rw [← hcdC] at hc1 hc2
  have hop := op_effect hI hc1 hc2 hm1 hm2
  rw [hcdC] at hop
  obtain ⟨h0, hkr, hval, hI2⟩ := hop
  refine jr_perm (ws' := (wQ G h FC' VC' h2 FM' VM' fd' o fo' od fdd)) (st := [.int (iI v)]) [0, 1, 2, 3, 4, 5, 6, 7, 8, 9, 10, 11, 12, 13, 14, 15, 16, 17, 20, 21, 22, 23, 24, 25, 26, 27, 28, 29, 30, 31, 32, 33, 34, 35, 36, 18, 19] rfl rfl ?_
  refine jr_istore (lv' := [(7, .int (iI v)), (6, .int (iI kC)), (0, .ref b), (1, .ref (h 0)), (2, .ref (h2 0)), (3, .ref o), (4, .ref od), (5, .int (iI ((5 * n : Nat) : Int)))]) (pc := 864) hh dL_law_864 (by decide) rfl ?_
  refine jr_aload_n (pc := 866) hh 4 dL_law_866 rfl rfl ?_
  refine jr_callV (pc := 867) hh [] [] (c_X4_thrown l G h2 FM' VM' fd') gL_law_X4_thrown rfl (by decide) ⟨by show 37 + n + 1 + 0 + 0 ≤ 3130; omega, by show 1592 + 6 * n + 6 + 0 + 0 ≤ 120502; omega⟩ [18, 19, 20, 21, 22, 23, 24, 25, 26, 27, 28, 29, 30, 31, 32, 33, 34] [0, 1, 2, 3, 4, 5, 6, 7, 8, 9, 10, 11, 12, 13, 14, 15, 16, 17, 35, 36] rfl rfl rfl rfl (by decide) 0 rfl rfl 0 rfl rfl (Nat.le_of_ble_eq_true rfl) (by decide +kernel) dL_law_867 (fun rv3 w3 hw3 => ?_)
  obtain ⟨rfl, rfl⟩ := hw3
  refine jr_perm (ws' := (wQ G h FC' VC' h2 FM' VM' fd' o fo' od fdd)) (st := [.int (iI (VM' 0))]) [0, 1, 2, 3, 4, 5, 6, 7, 8, 9, 10, 11, 12, 13, 14, 15, 16, 17, 20, 21, 22, 23, 24, 25, 26, 27, 28, 29, 30, 31, 32, 33, 34, 35, 36, 18, 19] rfl rfl ?_
  refine jr_topi (b := kC) h0 ?_
  refine jr_iload (pc := 870) hh 1 dL_law_870 rfl ?_
  refine jr_icmp_eq (tgt := 877) (pc := 872) hh dL_law_872 (by decide) ⟨by omega, by omega⟩ ⟨by omega, by omega⟩ (fun _ => ?_) (fun c9 => absurd rfl c9)
  refine jr_iload (pc := 877) hh 1 dL_law_877 rfl ?_
  refine jr_if_ne (tgt := 894) (pc := 879) hh dL_law_879 (by decide) ⟨by omega, by omega⟩ (fun _ => ?_) (fun c9 => ?_)
  · skip
    refine jr_goto (tgt := 1554) (pc := 894) hh dL_law_894 (by decide) ?_
    refine jr_loc (lv' := [(0, .ref b), (1, .ref (h 0)), (2, .ref (h2 0)), (3, .ref o), (4, .ref od), (5, .int (iI ((5 * n : Nat) : Int)))]) [2, 3, 4, 5, 6, 7] rfl ?_
    exact jr_room (by show 37 + n + 1 + 0 + 0 ≤ 37 + (n + 1); omega) (by show 1592 + 6 * n + 6 + 0 + 0 ≤ 1592 + 6 * (n + 1); omega) (next FC' VC' FM' VM' fd' fo' fdd hI2)
  · skip
    obtain ⟨hv1, hv2⟩ := hval c9
    have hv3 := hv2.1
    have hv4 := hv2.2
    refine jr_aload_n (pc := 882) hh 5 dL_law_882 rfl rfl ?_
    refine jr_iconst (pc := 883) hh dL_law_883 ?_
    refine jr_lald (F := fo') (pc := 884) hh 35 rfl 0 rfl (by decide) (by decide) dL_law_884 ?_
    refine jr_iload (pc := 885) hh 0 dL_law_885 rfl ?_
    refine jr_i2l (pc := 887) hh dL_law_887 ⟨hv3, hv4⟩ ?_
    refine jr_lcmp_eq (tgt := 894) (pc := 888) hh dL_law_888 dL_law_889 (by decide) ⟨by omega, by omega⟩ ⟨by omega, by omega⟩ (fun _ => ?_) (fun c8 => absurd hv1 c8)
    refine jr_goto (tgt := 1554) (pc := 894) hh dL_law_894 (by decide) ?_
    refine jr_loc (lv' := [(0, .ref b), (1, .ref (h 0)), (2, .ref (h2 0)), (3, .ref o), (4, .ref od), (5, .int (iI ((5 * n : Nat) : Int)))]) [2, 3, 4, 5, 6, 7] rfl ?_
    exact jr_room (by show 37 + n + 1 + 0 + 0 ≤ 37 + (n + 1); omega) (by show 1592 + 6 * n + 6 + 0 + 0 ≤ 1592 + 6 * (n + 1); omega) (next FC' VC' FM' VM' fd' fo' fdd hI2)
set_option maxHeartbeats 4000000 in
set_option maxRecDepth 100000 in
theorem k_seek {p : Program} {l : Launch} {e : Env} {s : State} {m : MethodId} {args : Array Value} {below : List Frame} {meth : Method} {c : Code} {A : Nat → Prop} {G : jG} {Q : State → Prop} {b L n : Nat} {xs : Nat → Int32} {h h2 : Nat → Nat} {o od : Nat} {FC : Nat → Nat → Int} {VC : Nat → Int} {FM : Nat → Nat → Int} {VM fd fo : Nat → Int} {fdd : Nat → UInt64}
    (hh : jOK p s m args meth c A G cL_law wsL_law RL 9) (hnc : ∀ E ∈ jEX, ∀ nm ∈ jEX, E ≠ nm → va_Nc E nm s) (hlt : l.stackTraces = false) (hX : va_X b L xs s s.heap) (hbl : b < s.heap.size) (hbA : ¬ A b) (hn : 5 * n + 5 ≤ L) (hL : L ≤ 2560) (hI : Inv FC VC FM VM)
    (next : ∀ (FC : Nat → Nat → Int) (VC : Nat → Int) (FM : Nat → Nat → Int) (VM fd fo : Nat → Int) (fdd : Nat → UInt64), Inv FC VC FM VM → J p l e room_1 s m args below meth c A G 9 (37 + (n + 1)) (1592 + 6 * (n + 1)) Q (wQ G h FC VC h2 FM VM fd o fo od fdd) 1554 [(0, .ref b), (1, .ref (h 0)), (2, .ref (h2 0)), (3, .ref o), (4, .ref od), (5, .int (iI ((5 * n : Nat) : Int)))] []) : J p l e room_1 s m args below meth c A G 9 (37 + n) (1592 + 6 * n) Q (wQ G h FC VC h2 FM VM fd o fo od fdd) 897 [(0, .ref b), (1, .ref (h 0)), (2, .ref (h2 0)), (3, .ref o), (4, .ref od), (5, .int (iI ((5 * n : Nat) : Int)))] [] := by
  have hok := okC_of hI
  have hown := inv_own hI
  refine jr_aload_n (pc := 897) hh 1 dL_law_897 rfl rfl ?_
  refine jr_aload_n (pc := 898) hh 0 dL_law_898 rfl rfl ?_
  refine jr_iload (pc := 899) hh 5 dL_law_899 rfl ?_
  refine jr_iconst (pc := 901) hh dL_law_901 ?_
  refine jr_iadd (pc := 902) hh dL_law_902 ?_
  refine jr_sld (pc := 903) hh hX hbl hbA (5 * n + 1) (by omega) (by omega) (by omega) dL_law_903 ?_
  refine jr_aload_n (pc := 904) hh 0 dL_law_904 rfl rfl ?_
  refine jr_iload (pc := 905) hh 5 dL_law_905 rfl ?_
  refine jr_iconst (pc := 907) hh dL_law_907 ?_
  refine jr_iadd (pc := 908) hh dL_law_908 ?_
  refine jr_sld (pc := 909) hh hX hbl hbA (5 * n + 2) (by omega) (by omega) (by omega) dL_law_909 ?_
  refine jr_aload_n (pc := 910) hh 0 dL_law_910 rfl rfl ?_
  refine jr_iload (pc := 911) hh 5 dL_law_911 rfl ?_
  refine jr_iconst (pc := 913) hh dL_law_913 ?_
  refine jr_iadd (pc := 914) hh dL_law_914 ?_
  refine jr_sld (pc := 915) hh hX hbl hbA (5 * n + 3) (by omega) (by omega) (by omega) dL_law_915 ?_
  refine jr_aload_n (pc := 916) hh 0 dL_law_916 rfl rfl ?_
  refine jr_iload (pc := 917) hh 5 dL_law_917 rfl ?_
  refine jr_iconst (pc := 919) hh dL_law_919 ?_
  refine jr_iadd (pc := 920) hh dL_law_920 ?_
  refine jr_sld (pc := 921) hh hX hbl hbA (5 * n + 4) (by omega) (by omega) (by omega) dL_law_921 ?_
  refine jr_aload_n (pc := 922) hh 3 dL_law_922 rfl rfl ?_
  refine jr_callSL (pc := 923) hh hnc [.ref (h 0), .int (iI (xs (5 * n + 1)).toInt), .int (iI (xs (5 * n + 2)).toInt), .int (iI (xs (5 * n + 3)).toInt), .int (iI (xs (5 * n + 4)).toInt), .ref o] [] (w_seek l hlt G h FC VC o fo ((xs (5 * n + 1)).toInt) ((xs (5 * n + 2)).toInt) ((xs (5 * n + 3)).toInt) ((xs (5 * n + 4)).toInt) (iI_range _) (iI_range _) (iI_range _) (iI_range _) hok) gL_law_L_seek rfl (by decide) ⟨by show 37 + n + 1 ≤ 3130; omega, by show 1592 + 6 * n + 6 ≤ 120502; omega⟩ [0, 1, 2, 3, 4, 5, 6, 7, 8, 9, 10, 11, 12, 13, 14, 15, 16, 17, 35] [18, 19, 20, 21, 22, 23, 24, 25, 26, 27, 28, 29, 30, 31, 32, 33, 34, 36] rfl rfl rfl rfl (by decide) 6 rfl rfl (Nat.le_of_ble_eq_true rfl) (by decide +kernel) dL_law_923 (fun rv1 w1 hw1 => ?_)
  obtain ⟨rfl, FC', VC', fo', rfl, hc1, hc2⟩ := hw1
  generalize hcdC : cdSeek (VC 3) (VC 2) ((xs (5 * n + 1)).toInt) ((xs (5 * n + 2)).toInt) ((xs (5 * n + 3)).toInt) (fstP (skP FC ((xs (5 * n + 1)).toInt).toNat ((xs (5 * n + 3)).toInt).toNat ((xs (5 * n + 2)).toInt).toNat ((xs (5 * n + 4)).toInt)) 1000) = kC at hc1 hc2
  refine jr_perm (ws' := (wQ G h FC' VC' h2 FM VM fd o fo' od fdd)) (st := [.int (iI kC)]) [18, 19, 20, 21, 22, 23, 24, 25, 26, 27, 28, 29, 30, 31, 32, 33, 34, 35, 0, 1, 2, 3, 4, 5, 6, 7, 8, 9, 10, 11, 12, 13, 14, 15, 16, 36, 17] rfl rfl ?_
  refine jr_istore (lv' := [(6, .int (iI kC)), (0, .ref b), (1, .ref (h 0)), (2, .ref (h2 0)), (3, .ref o), (4, .ref od), (5, .int (iI ((5 * n : Nat) : Int)))]) (pc := 926) hh dL_law_926 (by decide) rfl ?_
  refine jr_aload_n (pc := 928) hh 3 dL_law_928 rfl rfl ?_
  refine jr_aload_n (pc := 929) hh 1 dL_law_929 rfl rfl ?_
  refine jr_iload (pc := 930) hh 6 dL_law_930 rfl ?_
  refine jr_iconst (pc := 932) hh dL_law_932 ?_
  refine jr_iadd (pc := 933) hh dL_law_933 ?_
  refine jr_sld (pc := 934) hh hX hbl hbA (5 * n + 1) (by omega) (by omega) (by omega) dL_law_934 ?_
  refine jr_aload_n (pc := 935) hh 1 dL_law_935 rfl rfl ?_
  refine jr_iload (pc := 936) hh 6 dL_law_936 rfl ?_
  refine jr_iconst (pc := 938) hh dL_law_938 ?_
  refine jr_iadd (pc := 939) hh dL_law_939 ?_
  refine jr_sld (pc := 940) hh hX hbl hbA (5 * n + 2) (by omega) (by omega) (by omega) dL_law_940 ?_
  refine jr_aload_n (pc := 941) hh 1 dL_law_941 rfl rfl ?_
  refine jr_iload (pc := 942) hh 6 dL_law_942 rfl ?_
  refine jr_iconst (pc := 944) hh dL_law_944 ?_
  refine jr_iadd (pc := 945) hh dL_law_945 ?_
  refine jr_sld (pc := 946) hh hX hbl hbA (5 * n + 3) (by omega) (by omega) (by omega) dL_law_946 ?_
  refine jr_aload_n (pc := 947) hh 1 dL_law_947 rfl rfl ?_
  refine jr_iload (pc := 948) hh 6 dL_law_948 rfl ?_
  refine jr_iconst (pc := 950) hh dL_law_950 ?_
  refine jr_iadd (pc := 951) hh dL_law_951 ?_
  refine jr_sld (pc := 952) hh hX hbl hbA (5 * n + 4) (by omega) (by omega) (by omega) dL_law_952 ?_
  refine jr_callV (pc := 953) hh [.int (iI (xs (5 * n + 1)).toInt), .int (iI (xs (5 * n + 2)).toInt), .int (iI (xs (5 * n + 3)).toInt), .int (iI (xs (5 * n + 4)).toInt)] [] (c_X4_seek l G h2 FM VM fd ((xs (5 * n + 1)).toInt) ((xs (5 * n + 2)).toInt) ((xs (5 * n + 3)).toInt) ((xs (5 * n + 4)).toInt) (iI_range _) (iI_range _) (iI_range _) (iI_range _) hI.1) gL_law_X4_seek rfl (by decide) ⟨by show 37 + n + 1 + 0 ≤ 3130; omega, by show 1592 + 6 * n + 6 + 0 ≤ 120502; omega⟩ [18, 19, 20, 21, 22, 23, 24, 25, 26, 27, 28, 29, 30, 31, 32, 33, 34] [0, 1, 2, 3, 4, 5, 6, 7, 8, 9, 10, 11, 12, 13, 14, 15, 16, 17, 35, 36] rfl rfl rfl rfl (by decide) 0 rfl rfl 4 rfl rfl (Nat.le_of_ble_eq_true rfl) (by decide +kernel) dL_law_953 (fun rv2 w2 hw2 => ?_)
  obtain ⟨v, FM', VM', fd', rfl, rfl, hm1, hm2⟩ := hw2
  rw [← hcdC] at hc1 hc2
  have hop := op_seek hI hc1 hc2 hm1 hm2
  rw [hcdC] at hop
  obtain ⟨h0, hkr, hval, hI2⟩ := hop
  refine jr_perm (ws' := (wQ G h FC' VC' h2 FM' VM' fd' o fo' od fdd)) (st := [.int (iI v)]) [0, 1, 2, 3, 4, 5, 6, 7, 8, 9, 10, 11, 12, 13, 14, 15, 16, 17, 20, 21, 22, 23, 24, 25, 26, 27, 28, 29, 30, 31, 32, 33, 34, 35, 36, 18, 19] rfl rfl ?_
  refine jr_istore (lv' := [(7, .int (iI v)), (6, .int (iI kC)), (0, .ref b), (1, .ref (h 0)), (2, .ref (h2 0)), (3, .ref o), (4, .ref od), (5, .int (iI ((5 * n : Nat) : Int)))]) (pc := 956) hh dL_law_956 (by decide) rfl ?_
  refine jr_aload_n (pc := 958) hh 4 dL_law_958 rfl rfl ?_
  refine jr_callV (pc := 959) hh [] [] (c_X4_thrown l G h2 FM' VM' fd') gL_law_X4_thrown rfl (by decide) ⟨by show 37 + n + 1 + 0 + 0 ≤ 3130; omega, by show 1592 + 6 * n + 6 + 0 + 0 ≤ 120502; omega⟩ [18, 19, 20, 21, 22, 23, 24, 25, 26, 27, 28, 29, 30, 31, 32, 33, 34] [0, 1, 2, 3, 4, 5, 6, 7, 8, 9, 10, 11, 12, 13, 14, 15, 16, 17, 35, 36] rfl rfl rfl rfl (by decide) 0 rfl rfl 0 rfl rfl (Nat.le_of_ble_eq_true rfl) (by decide +kernel) dL_law_959 (fun rv3 w3 hw3 => ?_)
  obtain ⟨rfl, rfl⟩ := hw3
  refine jr_perm (ws' := (wQ G h FC' VC' h2 FM' VM' fd' o fo' od fdd)) (st := [.int (iI (VM' 0))]) [0, 1, 2, 3, 4, 5, 6, 7, 8, 9, 10, 11, 12, 13, 14, 15, 16, 17, 20, 21, 22, 23, 24, 25, 26, 27, 28, 29, 30, 31, 32, 33, 34, 35, 36, 18, 19] rfl rfl ?_
  refine jr_topi (b := kC) h0 ?_
  refine jr_iload (pc := 962) hh 1 dL_law_962 rfl ?_
  refine jr_icmp_eq (tgt := 969) (pc := 964) hh dL_law_964 (by decide) ⟨by omega, by omega⟩ ⟨by omega, by omega⟩ (fun _ => ?_) (fun c9 => absurd rfl c9)
  refine jr_iload (pc := 969) hh 1 dL_law_969 rfl ?_
  refine jr_if_ne (tgt := 986) (pc := 971) hh dL_law_971 (by decide) ⟨by omega, by omega⟩ (fun _ => ?_) (fun c9 => ?_)
  · skip
    refine jr_goto (tgt := 1554) (pc := 986) hh dL_law_986 (by decide) ?_
    refine jr_loc (lv' := [(0, .ref b), (1, .ref (h 0)), (2, .ref (h2 0)), (3, .ref o), (4, .ref od), (5, .int (iI ((5 * n : Nat) : Int)))]) [2, 3, 4, 5, 6, 7] rfl ?_
    exact jr_room (by show 37 + n + 1 + 0 + 0 ≤ 37 + (n + 1); omega) (by show 1592 + 6 * n + 6 + 0 + 0 ≤ 1592 + 6 * (n + 1); omega) (next FC' VC' FM' VM' fd' fo' fdd hI2)
  · skip
    obtain ⟨hv1, hv2⟩ := hval c9
    have hv3 := hv2.1
    have hv4 := hv2.2
    refine jr_aload_n (pc := 974) hh 5 dL_law_974 rfl rfl ?_
    refine jr_iconst (pc := 975) hh dL_law_975 ?_
    refine jr_lald (F := fo') (pc := 976) hh 35 rfl 0 rfl (by decide) (by decide) dL_law_976 ?_
    refine jr_iload (pc := 977) hh 0 dL_law_977 rfl ?_
    refine jr_i2l (pc := 979) hh dL_law_979 ⟨hv3, hv4⟩ ?_
    refine jr_lcmp_eq (tgt := 986) (pc := 980) hh dL_law_980 dL_law_981 (by decide) ⟨by omega, by omega⟩ ⟨by omega, by omega⟩ (fun _ => ?_) (fun c8 => absurd hv1 c8)
    refine jr_goto (tgt := 1554) (pc := 986) hh dL_law_986 (by decide) ?_
    refine jr_loc (lv' := [(0, .ref b), (1, .ref (h 0)), (2, .ref (h2 0)), (3, .ref o), (4, .ref od), (5, .int (iI ((5 * n : Nat) : Int)))]) [2, 3, 4, 5, 6, 7] rfl ?_
    exact jr_room (by show 37 + n + 1 + 0 + 0 ≤ 37 + (n + 1); omega) (by show 1592 + 6 * n + 6 + 0 + 0 ≤ 1592 + 6 * (n + 1); omega) (next FC' VC' FM' VM' fd' fo' fdd hI2)

/-! CHARTS: the walk, from its end to its start -/
set_option maxRecDepth 100000 in
set_option maxHeartbeats 4000000 in
theorem gC9 {x : zX} {g : zG} (S : zS x g 1 cL_charts RL) (hn : zn g = 21) (hend : ∀ (ce sl : Nat) (L : List (Option Value)) (μ : zM), ce ≤ 740 → sl ≤ 4779 → zK x g ({ frames := 11, cells := 740, slots := 4779, locals := 220 } : Room) 1 ce sl 811 L [.int 1] μ) : zK x g ({ frames := 11, cells := 740, slots := 4779, locals := 220 } : Room) 1 547 3621 788 [some (.ref (za g 0))] [.int 1] (zOf sC19) := by
  refine k_if_eq S dL_charts_788 (tgt := 810) (by decide) (n := 791) rfl (fun h9 => absurd h9 (by decide)) (fun _ => ?_)
  refine k_aload0 S dL_charts_791 (n := 792) rfl ?_
  refine k_iconst S dL_charts_792 (v := 3) (by decide) (n := 793) rfl ?_
  refine k_callV (As := [.int 3]) (rest := []) (p := 0) S (qC59 hn) mv_X3_phaseOf m_489 dL_charts_793 rfl rfl ⟨by decide, by decide⟩ (zlt S (by decide)) (by decide) (ci := 3) rfl rfl rfl (Nat.le_of_ble_eq_true rfl) ⟨by decide, by decide⟩ (n := 796) rfl (fun _ _ h => h.elim) (fun v9 ν9 h9 => ?_)
  rw [h9.1, h9.2]
  show zK x g ({ frames := 11, cells := 740, slots := 4779, locals := 220 } : Room) 1 548 3627 796 [some (.ref (za g 0))] [.int 0] (zOf sC19)
  refine k_if_ne S dL_charts_796 (tgt := 810) (by decide) (n := 799) rfl (fun h9 => absurd (by decide) h9) (fun _ => ?_)
  refine k_aload0 S dL_charts_799 (n := 800) rfl ?_
  refine k_callS (As := [.ref (za g 0)]) (rest := []) S (qC60 hn) mv_L_refuses m_344 dL_charts_800 rfl rfl ⟨by decide, by decide⟩ rfl rfl (Nat.le_of_ble_eq_true rfl) ⟨by decide, by decide⟩ (n := 803) rfl (fun _ _ h => h.elim) (fun v9 ν9 h9 => ?_)
  rw [h9.1, h9.2]
  show zK x g ({ frames := 11, cells := 740, slots := 4779, locals := 220 } : Room) 1 740 4779 803 [some (.ref (za g 0))] [.int 1] (zOf sC21)
  refine k_if_eq S dL_charts_803 (tgt := 810) (by decide) (n := 806) rfl (fun h9 => absurd h9 (by decide)) (fun _ => ?_)
  refine k_iconst S dL_charts_806 (v := 1) (by decide) (n := 807) rfl ?_
  refine k_goto S dL_charts_807 (tgt := 811) (by decide) ?_
  exact hend _ _ _ _ (by decide) (by decide)
set_option maxRecDepth 100000 in
set_option maxHeartbeats 4000000 in
theorem gC8 {x : zX} {g : zG} (S : zS x g 1 cL_charts RL) (hn : zn g = 21) (hend : ∀ (ce sl : Nat) (L : List (Option Value)) (μ : zM), ce ≤ 740 → sl ≤ 4779 → zK x g ({ frames := 11, cells := 740, slots := 4779, locals := 220 } : Room) 1 ce sl 811 L [.int 1] μ) : zK x g ({ frames := 11, cells := 740, slots := 4779, locals := 220 } : Room) 1 527 3501 699 [some (.ref (za g 0))] [.int 1] (zOf sC17) := by
  refine k_if_eq S dL_charts_699 (tgt := 810) (by decide) (n := 702) rfl (fun h9 => absurd h9 (by decide)) (fun _ => ?_)
  refine k_aload0 S dL_charts_702 (n := 703) rfl ?_
  refine k_iconst S dL_charts_703 (v := 0) (by decide) (n := 704) rfl ?_
  refine k_iconst S dL_charts_704 (v := 1) (by decide) (n := 705) rfl ?_
  refine k_callV (As := [.int 0, .int 1]) (rest := []) (p := 0) S (qC54 hn) mv_X3_exclude m_471 dL_charts_705 rfl rfl ⟨by decide, by decide⟩ (zlt S (by decide)) (by decide) (ci := 3) rfl rfl rfl (Nat.le_of_ble_eq_true rfl) ⟨by decide, by decide⟩ (n := 708) rfl (fun _ _ h => h.elim) (fun v9 ν9 h9 => ?_)
  rw [h9.1, h9.2]
  show zK x g ({ frames := 11, cells := 740, slots := 4779, locals := 220 } : Room) 1 529 3513 708 [some (.ref (za g 0))] [.int 0] (zOf sC18)
  refine k_if_ne S dL_charts_708 (tgt := 810) (by decide) (n := 711) rfl (fun h9 => absurd (by decide) h9) (fun _ => ?_)
  refine k_aload0 S dL_charts_711 (n := 712) rfl ?_
  refine k_iconst S dL_charts_712 (v := 1) (by decide) (n := 713) rfl ?_
  refine k_iconst S dL_charts_713 (v := 1) (by decide) (n := 714) rfl ?_
  refine k_callV (As := [.int 1, .int 1]) (rest := []) (p := 0) S (qC55 hn) mv_X3_exclude m_471 dL_charts_714 rfl rfl ⟨by decide, by decide⟩ (zlt S (by decide)) (by decide) (ci := 3) rfl rfl rfl (Nat.le_of_ble_eq_true rfl) ⟨by decide, by decide⟩ (n := 717) rfl (fun _ _ h => h.elim) (fun v9 ν9 h9 => ?_)
  rw [h9.1, h9.2]
  show zK x g ({ frames := 11, cells := 740, slots := 4779, locals := 220 } : Room) 1 531 3525 717 [some (.ref (za g 0))] [.int 0] (zOf sC19)
  refine k_if_ne S dL_charts_717 (tgt := 810) (by decide) (n := 720) rfl (fun h9 => absurd (by decide) h9) (fun _ => ?_)
  refine k_aload0 S dL_charts_720 (n := 721) rfl ?_
  refine k_iconst S dL_charts_721 (v := 2) (by decide) (n := 722) rfl ?_
  refine k_iconst S dL_charts_722 (v := 1) (by decide) (n := 723) rfl ?_
  refine k_callV (As := [.int 2, .int 1]) (rest := []) (p := 0) S (qC56 hn) mv_X3_exclude m_471 dL_charts_723 rfl rfl ⟨by decide, by decide⟩ (zlt S (by decide)) (by decide) (ci := 3) rfl rfl rfl (Nat.le_of_ble_eq_true rfl) ⟨by decide, by decide⟩ (n := 726) rfl (fun _ _ h => h.elim) (fun v9 ν9 h9 => ?_)
  rw [h9.1, h9.2]
  show zK x g ({ frames := 11, cells := 740, slots := 4779, locals := 220 } : Room) 1 533 3537 726 [some (.ref (za g 0))] [.int 0] (zOf sC20)
  refine k_if_ne S dL_charts_726 (tgt := 810) (by decide) (n := 729) rfl (fun h9 => absurd (by decide) h9) (fun _ => ?_)
  refine k_aload0 S dL_charts_729 (n := 730) rfl ?_
  refine k_bipush S dL_charts_730 (v := 8) (by decide) (n := 732) rfl ?_
  refine k_iconst S dL_charts_732 (v := 0) (by decide) (n := 733) rfl ?_
  refine k_iconst S dL_charts_733 (v := 0) (by decide) (n := 734) rfl ?_
  refine k_iconst S dL_charts_734 (v := 0) (by decide) (n := 735) rfl ?_
  refine k_callH (As := [.ref (za g 0), .int 8, .int 0, .int 0, .int 0]) (rest := []) S (x_act8 (Or.inr (Or.inr rfl)) (n_width_state vC20 (k := 0) (by decide) (by unfold zLm; decide +kernel))) mv_L_act m_457 dL_charts_735 rfl rfl ⟨by decide, by decide⟩ rfl rfl (Nat.le_of_ble_eq_true rfl) ⟨by decide, by decide⟩ (n := 738) rfl (fun _ _ h => h.elim) (fun v9 ν9 h9 => ?_)
  rw [h9.1, h9.2]
  show zK x g ({ frames := 11, cells := 740, slots := 4779, locals := 220 } : Room) 1 535 3549 738 [some (.ref (za g 0))] [.long ((zcd "java/lang/IllegalStateException"))] (zOf sC20)
  refine k_topl (-99000013) zcd_s ?_
  refine k_ldc2 S dL_charts_738 (v := (-99000013)) m_620 (n := 741) rfl ?_
  refine k_lcmp S dL_charts_741 (n := 742) rfl ?_
  refine k_top 0 (by decide) ?_
  refine k_if_ne S dL_charts_742 (tgt := 810) (by decide) (n := 745) rfl (fun h9 => absurd (by decide) h9) (fun _ => ?_)
  refine k_aload0 S dL_charts_745 (n := 746) rfl ?_
  refine k_iconst S dL_charts_746 (v := 0) (by decide) (n := 747) rfl ?_
  refine k_callH (As := [.ref (za g 0), .int 0]) (rest := []) S (x_holds (Or.inr rfl) (n_freeze_state vC20 (k := 0) (by decide) (by decide +kernel))) mv_L_holds m_418 dL_charts_747 rfl rfl ⟨by decide, by decide⟩ rfl rfl (Nat.le_of_ble_eq_true rfl) ⟨by decide, by decide⟩ (n := 750) rfl (fun _ _ h => h.elim) (fun v9 ν9 h9 => ?_)
  rw [h9.1, h9.2]
  show zK x g ({ frames := 11, cells := 740, slots := 4779, locals := 220 } : Room) 1 537 3561 750 [some (.ref (za g 0))] [.int ((if "java/lang/IllegalStateException" = "java/lang/IndexOutOfBoundsException" then (-11 : Int32) else (-13)))] (zOf sC20)
  refine k_top (-13) (if_neg (by decide)) ?_
  refine k_bipush S dL_charts_750 (v := (-13)) (by decide) (n := 752) rfl ?_
  refine k_icmp_ne S dL_charts_752 (tgt := 810) (by decide) (n := 755) rfl (fun h9 => absurd (by decide) h9) (fun _ => ?_)
  refine k_aload0 S dL_charts_755 (n := 756) rfl ?_
  refine k_iconst S dL_charts_756 (v := 2) (by decide) (n := 757) rfl ?_
  refine k_iconst S dL_charts_757 (v := 0) (by decide) (n := 758) rfl ?_
  refine k_callV (As := [.int 2, .int 0]) (rest := []) (p := 0) S (qC57 hn) mv_X3_exclude m_471 dL_charts_758 rfl rfl ⟨by decide, by decide⟩ (zlt S (by decide)) (by decide) (ci := 3) rfl rfl rfl (Nat.le_of_ble_eq_true rfl) ⟨by decide, by decide⟩ (n := 761) rfl (fun _ _ h => h.elim) (fun v9 ν9 h9 => ?_)
  rw [h9.1, h9.2]
  show zK x g ({ frames := 11, cells := 740, slots := 4779, locals := 220 } : Room) 1 539 3573 761 [some (.ref (za g 0))] [.int 1] (zOf sC19)
  refine k_iconst S dL_charts_761 (v := 1) (by decide) (n := 762) rfl ?_
  refine k_icmp_ne S dL_charts_762 (tgt := 810) (by decide) (n := 765) rfl (fun h9 => absurd (by decide) h9) (fun _ => ?_)
  refine k_aload0 S dL_charts_765 (n := 766) rfl ?_
  refine k_iconst S dL_charts_766 (v := 0) (by decide) (n := 767) rfl ?_
  refine k_callH (As := [.ref (za g 0), .int 0]) (rest := []) S (x_holds (Or.inr rfl) (n_freeze_state vC19 (k := 0) (by decide) (by decide +kernel))) mv_L_holds m_418 dL_charts_767 rfl rfl ⟨by decide, by decide⟩ rfl rfl (Nat.le_of_ble_eq_true rfl) ⟨by decide, by decide⟩ (n := 770) rfl (fun _ _ h => h.elim) (fun v9 ν9 h9 => ?_)
  rw [h9.1, h9.2]
  show zK x g ({ frames := 11, cells := 740, slots := 4779, locals := 220 } : Room) 1 541 3585 770 [some (.ref (za g 0))] [.int ((if "java/lang/IllegalStateException" = "java/lang/IndexOutOfBoundsException" then (-11 : Int32) else (-13)))] (zOf sC19)
  refine k_top (-13) (if_neg (by decide)) ?_
  refine k_bipush S dL_charts_770 (v := (-13)) (by decide) (n := 772) rfl ?_
  refine k_icmp_ne S dL_charts_772 (tgt := 810) (by decide) (n := 775) rfl (fun h9 => absurd (by decide) h9) (fun _ => ?_)
  refine k_aload0 S dL_charts_775 (n := 776) rfl ?_
  refine k_sipush S dL_charts_776 (v := 18000) (by decide) (n := 779) rfl ?_
  refine k_sipush S dL_charts_779 (v := 7520) (by decide) (n := 782) rfl ?_
  refine k_sipush S dL_charts_782 (v := 13068) (by decide) (n := 785) rfl ?_
  refine k_callS (As := [.ref (za g 0), .int 18000, .int 7520, .int 13068]) (rest := []) S (qC58 hn) mv_L_limits m_627 dL_charts_785 rfl rfl ⟨by decide, by decide⟩ rfl rfl (Nat.le_of_ble_eq_true rfl) ⟨by decide, by decide⟩ (n := 788) rfl (fun _ _ h => h.elim) (fun v9 ν9 h9 => ?_)
  rw [h9.1, h9.2]
  show zK x g ({ frames := 11, cells := 740, slots := 4779, locals := 220 } : Room) 1 547 3621 788 [some (.ref (za g 0))] [.int 1] (zOf sC19)
  exact gC9 S hn hend
set_option maxRecDepth 100000 in
set_option maxHeartbeats 4000000 in
theorem gC7 {x : zX} {g : zG} (S : zS x g 1 cL_charts RL) (hn : zn g = 21) (hend : ∀ (ce sl : Nat) (L : List (Option Value)) (μ : zM), ce ≤ 740 → sl ≤ 4779 → zK x g ({ frames := 11, cells := 740, slots := 4779, locals := 220 } : Room) 1 ce sl 811 L [.int 1] μ) : zK x g ({ frames := 11, cells := 740, slots := 4779, locals := 220 } : Room) 1 508 3387 603 [some (.ref (za g 0))] [.int 3] (zOf sC15) := by
  refine k_iconst S dL_charts_603 (v := 3) (by decide) (n := 604) rfl ?_
  refine k_icmp_ne S dL_charts_604 (tgt := 810) (by decide) (n := 607) rfl (fun h9 => absurd (by decide) h9) (fun _ => ?_)
  refine k_aload0 S dL_charts_607 (n := 608) rfl ?_
  refine k_sipush S dL_charts_608 (v := 12667) (by decide) (n := 611) rfl ?_
  refine k_sipush S dL_charts_611 (v := 3760) (by decide) (n := 614) rfl ?_
  refine k_sipush S dL_charts_614 (v := 6534) (by decide) (n := 617) rfl ?_
  refine k_callS (As := [.ref (za g 0), .int 12667, .int 3760, .int 6534]) (rest := []) S (qC48 hn) mv_L_limits m_627 dL_charts_617 rfl rfl ⟨by decide, by decide⟩ rfl rfl (Nat.le_of_ble_eq_true rfl) ⟨by decide, by decide⟩ (n := 620) rfl (fun _ _ h => h.elim) (fun v9 ν9 h9 => ?_)
  rw [h9.1, h9.2]
  show zK x g ({ frames := 11, cells := 740, slots := 4779, locals := 220 } : Room) 1 514 3423 620 [some (.ref (za g 0))] [.int 1] (zOf sC15)
  refine k_if_eq S dL_charts_620 (tgt := 810) (by decide) (n := 623) rfl (fun h9 => absurd h9 (by decide)) (fun _ => ?_)
  refine k_aload0 S dL_charts_623 (n := 624) rfl ?_
  refine k_iconst S dL_charts_624 (v := 3) (by decide) (n := 625) rfl ?_
  refine k_bipush S dL_charts_625 (v := 9) (by decide) (n := 627) rfl ?_
  refine k_callV (As := [.int 3, .int 9]) (rest := []) (p := 0) S (qC49 hn) mv_X3_exclude m_471 dL_charts_627 rfl rfl ⟨by decide, by decide⟩ (zlt S (by decide)) (by decide) (ci := 3) rfl rfl rfl (Nat.le_of_ble_eq_true rfl) ⟨by decide, by decide⟩ (n := 630) rfl (fun _ _ h => h.elim) (fun v9 ν9 h9 => ?_)
  rw [h9.1, h9.2]
  show zK x g ({ frames := 11, cells := 740, slots := 4779, locals := 220 } : Room) 1 516 3435 630 [some (.ref (za g 0))] [.int 4] (zOf sC16)
  refine k_iconst S dL_charts_630 (v := 4) (by decide) (n := 631) rfl ?_
  refine k_icmp_ne S dL_charts_631 (tgt := 810) (by decide) (n := 634) rfl (fun h9 => absurd (by decide) h9) (fun _ => ?_)
  refine k_aload0 S dL_charts_634 (n := 635) rfl ?_
  refine k_iconst S dL_charts_635 (v := 3) (by decide) (n := 636) rfl ?_
  refine k_iconst S dL_charts_636 (v := 0) (by decide) (n := 637) rfl ?_
  refine k_callS (As := [.ref (za g 0), .int 3, .int 0]) (rest := []) S (qC50 hn) mv_L_breaks m_630 dL_charts_637 rfl rfl ⟨by decide, by decide⟩ rfl rfl (Nat.le_of_ble_eq_true rfl) ⟨by decide, by decide⟩ (n := 640) rfl (fun _ _ h => h.elim) (fun v9 ν9 h9 => ?_)
  rw [h9.1, h9.2]
  show zK x g ({ frames := 11, cells := 740, slots := 4779, locals := 220 } : Room) 1 518 3447 640 [some (.ref (za g 0))] [.int 1] (zOf sC16)
  refine k_if_eq S dL_charts_640 (tgt := 810) (by decide) (n := 643) rfl (fun h9 => absurd h9 (by decide)) (fun _ => ?_)
  refine k_aload0 S dL_charts_643 (n := 644) rfl ?_
  refine k_iconst S dL_charts_644 (v := 3) (by decide) (n := 645) rfl ?_
  refine k_iconst S dL_charts_645 (v := 1) (by decide) (n := 646) rfl ?_
  refine k_callV (As := [.int 3, .int 1]) (rest := []) (p := 0) S (qC51 hn) mv_X3_firstOf m_571 dL_charts_646 rfl rfl ⟨by decide, by decide⟩ (zlt S (by decide)) (by decide) (ci := 3) rfl rfl rfl (Nat.le_of_ble_eq_true rfl) ⟨by decide, by decide⟩ (n := 649) rfl (fun _ _ h => h.elim) (fun v9 ν9 h9 => ?_)
  rw [h9.1, h9.2]
  show zK x g ({ frames := 11, cells := 740, slots := 4779, locals := 220 } : Room) 1 520 3459 649 [some (.ref (za g 0))] [.int ((-1))] (zOf sC16)
  refine k_iconst S dL_charts_649 (v := (-1)) (by decide) (n := 650) rfl ?_
  refine k_icmp_ne S dL_charts_650 (tgt := 810) (by decide) (n := 653) rfl (fun h9 => absurd (by decide) h9) (fun _ => ?_)
  refine k_aload0 S dL_charts_653 (n := 654) rfl ?_
  refine k_iconst S dL_charts_654 (v := 3) (by decide) (n := 655) rfl ?_
  refine k_callV (As := [.int 3]) (rest := []) (p := 0) S (qC52 hn) mv_X3_isWide m_581 dL_charts_655 rfl rfl ⟨by decide, by decide⟩ (zlt S (by decide)) (by decide) (ci := 3) rfl rfl rfl (Nat.le_of_ble_eq_true rfl) ⟨by decide, by decide⟩ (n := 658) rfl (fun _ _ h => h.elim) (fun v9 ν9 h9 => ?_)
  rw [h9.1, h9.2]
  show zK x g ({ frames := 11, cells := 740, slots := 4779, locals := 220 } : Room) 1 521 3465 658 [some (.ref (za g 0))] [.int 0] (zOf sC16)
  refine k_if_ne S dL_charts_658 (tgt := 810) (by decide) (n := 661) rfl (fun h9 => absurd (by decide) h9) (fun _ => ?_)
  refine k_aload0 S dL_charts_661 (n := 662) rfl ?_
  refine k_bipush S dL_charts_662 (v := 15) (by decide) (n := 664) rfl ?_
  refine k_iconst S dL_charts_664 (v := 3) (by decide) (n := 665) rfl ?_
  refine k_iconst S dL_charts_665 (v := 0) (by decide) (n := 666) rfl ?_
  refine k_iconst S dL_charts_666 (v := 0) (by decide) (n := 667) rfl ?_
  refine k_callH (As := [.ref (za g 0), .int 15, .int 3, .int 0, .int 0]) (rest := []) S (x_act15 (Or.inr (Or.inr rfl)) (n_weighted_state vC16 (i := 3) (by decide) (by decide +kernel))) mv_L_act m_457 dL_charts_667 rfl rfl ⟨by decide, by decide⟩ rfl rfl (Nat.le_of_ble_eq_true rfl) ⟨by decide, by decide⟩ (n := 670) rfl (fun _ _ h => h.elim) (fun v9 ν9 h9 => ?_)
  rw [h9.1, h9.2]
  show zK x g ({ frames := 11, cells := 740, slots := 4779, locals := 220 } : Room) 1 523 3477 670 [some (.ref (za g 0))] [.long ((zcd "java/lang/IllegalStateException"))] (zOf sC16)
  refine k_topl (-99000013) zcd_s ?_
  refine k_ldc2 S dL_charts_670 (v := (-99000013)) m_620 (n := 673) rfl ?_
  refine k_lcmp S dL_charts_673 (n := 674) rfl ?_
  refine k_top 0 (by decide) ?_
  refine k_if_ne S dL_charts_674 (tgt := 810) (by decide) (n := 677) rfl (fun h9 => absurd (by decide) h9) (fun _ => ?_)
  refine k_aload0 S dL_charts_677 (n := 678) rfl ?_
  refine k_bipush S dL_charts_678 (v := 16) (by decide) (n := 680) rfl ?_
  refine k_iconst S dL_charts_680 (v := 3) (by decide) (n := 681) rfl ?_
  refine k_iconst S dL_charts_681 (v := 1) (by decide) (n := 682) rfl ?_
  refine k_iconst S dL_charts_682 (v := 0) (by decide) (n := 683) rfl ?_
  refine k_callH (As := [.ref (za g 0), .int 16, .int 3, .int 1, .int 0]) (rest := []) S (x_act16 (Or.inr (Or.inr rfl)) (n_cumulative_state vC16 (i := 3) (by decide) (by decide +kernel))) mv_L_act m_457 dL_charts_683 rfl rfl ⟨by decide, by decide⟩ rfl rfl (Nat.le_of_ble_eq_true rfl) ⟨by decide, by decide⟩ (n := 686) rfl (fun _ _ h => h.elim) (fun v9 ν9 h9 => ?_)
  rw [h9.1, h9.2]
  show zK x g ({ frames := 11, cells := 740, slots := 4779, locals := 220 } : Room) 1 525 3489 686 [some (.ref (za g 0))] [.long ((zcd "java/lang/IllegalStateException"))] (zOf sC16)
  refine k_topl (-99000013) zcd_s ?_
  refine k_ldc2 S dL_charts_686 (v := (-99000013)) m_620 (n := 689) rfl ?_
  refine k_lcmp S dL_charts_689 (n := 690) rfl ?_
  refine k_top 0 (by decide) ?_
  refine k_if_ne S dL_charts_690 (tgt := 810) (by decide) (n := 693) rfl (fun h9 => absurd (by decide) h9) (fun _ => ?_)
  refine k_aload0 S dL_charts_693 (n := 694) rfl ?_
  refine k_iconst S dL_charts_694 (v := 2) (by decide) (n := 695) rfl ?_
  refine k_iconst S dL_charts_695 (v := 2) (by decide) (n := 696) rfl ?_
  refine k_callS (As := [.ref (za g 0), .int 2, .int 2]) (rest := []) S (qC53 hn) mv_L_breaks m_630 dL_charts_696 rfl rfl ⟨by decide, by decide⟩ rfl rfl (Nat.le_of_ble_eq_true rfl) ⟨by decide, by decide⟩ (n := 699) rfl (fun _ _ h => h.elim) (fun v9 ν9 h9 => ?_)
  rw [h9.1, h9.2]
  show zK x g ({ frames := 11, cells := 740, slots := 4779, locals := 220 } : Room) 1 527 3501 699 [some (.ref (za g 0))] [.int 1] (zOf sC17)
  exact gC8 S hn hend
set_option maxRecDepth 100000 in
set_option maxHeartbeats 4000000 in
theorem gC6 {x : zX} {g : zG} (S : zS x g 1 cL_charts RL) (hn : zn g = 21) (hend : ∀ (ce sl : Nat) (L : List (Option Value)) (μ : zM), ce ≤ 740 → sl ≤ 4779 → zK x g ({ frames := 11, cells := 740, slots := 4779, locals := 220 } : Room) 1 ce sl 811 L [.int 1] μ) : zK x g ({ frames := 11, cells := 740, slots := 4779, locals := 220 } : Room) 1 303 2157 501 [some (.ref (za g 0))] [.int 2728] (zOf sC14) := by
  refine k_sipush S dL_charts_501 (v := 2728) (by decide) (n := 504) rfl ?_
  refine k_icmp_ne S dL_charts_504 (tgt := 587) (by decide) (n := 507) rfl (fun h9 => absurd (by decide) h9) (fun _ => ?_)
  refine k_aload0 S dL_charts_507 (n := 508) rfl ?_
  refine k_iconst S dL_charts_508 (v := 2) (by decide) (n := 509) rfl ?_
  refine k_iconst S dL_charts_509 (v := 0) (by decide) (n := 510) rfl ?_
  refine k_callV (As := [.int 2, .int 0]) (rest := []) (p := 0) S (qC40 hn) mv_X3_cumulative m_602 dL_charts_510 rfl rfl ⟨by decide, by decide⟩ (zlt S (by decide)) (by decide) (ci := 3) rfl rfl rfl (Nat.le_of_ble_eq_true rfl) ⟨by decide, by decide⟩ (n := 513) rfl (fun _ _ h => h.elim) (fun v9 ν9 h9 => ?_)
  rw [h9.1, h9.2]
  show zK x g ({ frames := 11, cells := 740, slots := 4779, locals := 220 } : Room) 1 305 2169 513 [some (.ref (za g 0))] [.int 0] (zOf sC14)
  refine k_if_ne S dL_charts_513 (tgt := 587) (by decide) (n := 516) rfl (fun h9 => absurd (by decide) h9) (fun _ => ?_)
  refine k_aload0 S dL_charts_516 (n := 517) rfl ?_
  refine k_iconst S dL_charts_517 (v := 0) (by decide) (n := 518) rfl ?_
  refine k_iconst S dL_charts_518 (v := 0) (by decide) (n := 519) rfl ?_
  refine k_bipush S dL_charts_519 (v := 30) (by decide) (n := 521) rfl ?_
  refine k_iconst S dL_charts_521 (v := 0) (by decide) (n := 522) rfl ?_
  refine k_callV (As := [.int 0, .int 0, .int 30, .int 0]) (rest := []) (p := 0) S (qC41 hn) mv_X3_capability m_606 dL_charts_522 rfl rfl ⟨by decide, by decide⟩ (zlt S (by decide)) (by decide) (ci := 3) rfl rfl rfl (Nat.le_of_ble_eq_true rfl) ⟨by decide, by decide⟩ (n := 525) rfl (fun _ _ h => h.elim) (fun v9 ν9 h9 => ?_)
  rw [h9.1, h9.2]
  show zK x g ({ frames := 11, cells := 740, slots := 4779, locals := 220 } : Room) 1 307 2181 525 [some (.ref (za g 0))] [.long 402] (zOf sC14)
  refine k_ldc2 S dL_charts_525 (v := 402) m_634 (n := 528) rfl ?_
  refine k_lcmp S dL_charts_528 (n := 529) rfl ?_
  refine k_top 0 (by decide) ?_
  refine k_if_ne S dL_charts_529 (tgt := 587) (by decide) (n := 532) rfl (fun h9 => absurd (by decide) h9) (fun _ => ?_)
  refine k_aload0 S dL_charts_532 (n := 533) rfl ?_
  refine k_iconst S dL_charts_533 (v := 0) (by decide) (n := 534) rfl ?_
  refine k_iconst S dL_charts_534 (v := 0) (by decide) (n := 535) rfl ?_
  refine k_bipush S dL_charts_535 (v := 30) (by decide) (n := 537) rfl ?_
  refine k_iconst S dL_charts_537 (v := 1) (by decide) (n := 538) rfl ?_
  refine k_callV (As := [.int 0, .int 0, .int 30, .int 1]) (rest := []) (p := 0) S (qC42 hn) mv_X3_capability m_606 dL_charts_538 rfl rfl ⟨by decide, by decide⟩ (zlt S (by decide)) (by decide) (ci := 3) rfl rfl rfl (Nat.le_of_ble_eq_true rfl) ⟨by decide, by decide⟩ (n := 541) rfl (fun _ _ h => h.elim) (fun v9 ν9 h9 => ?_)
  rw [h9.1, h9.2]
  show zK x g ({ frames := 11, cells := 740, slots := 4779, locals := 220 } : Room) 1 309 2193 541 [some (.ref (za g 0))] [.long 382] (zOf sC14)
  refine k_ldc2 S dL_charts_541 (v := 382) m_635 (n := 544) rfl ?_
  refine k_lcmp S dL_charts_544 (n := 545) rfl ?_
  refine k_top 0 (by decide) ?_
  refine k_if_ne S dL_charts_545 (tgt := 587) (by decide) (n := 548) rfl (fun h9 => absurd (by decide) h9) (fun _ => ?_)
  refine k_aload0 S dL_charts_548 (n := 549) rfl ?_
  refine k_iconst S dL_charts_549 (v := 0) (by decide) (n := 550) rfl ?_
  refine k_bipush S dL_charts_550 (v := 20) (by decide) (n := 552) rfl ?_
  refine k_bipush S dL_charts_552 (v := 30) (by decide) (n := 554) rfl ?_
  refine k_iconst S dL_charts_554 (v := 1) (by decide) (n := 555) rfl ?_
  refine k_callV (As := [.int 0, .int 20, .int 30, .int 1]) (rest := []) (p := 0) S (qC43 hn) mv_X3_capability m_606 dL_charts_555 rfl rfl ⟨by decide, by decide⟩ (zlt S (by decide)) (by decide) (ci := 3) rfl rfl rfl (Nat.le_of_ble_eq_true rfl) ⟨by decide, by decide⟩ (n := 558) rfl (fun _ _ h => h.elim) (fun v9 ν9 h9 => ?_)
  rw [h9.1, h9.2]
  show zK x g ({ frames := 11, cells := 740, slots := 4779, locals := 220 } : Room) 1 311 2205 558 [some (.ref (za g 0))] [.long ((-115))] (zOf sC14)
  refine k_ldc2 S dL_charts_558 (v := (-115)) m_636 (n := 561) rfl ?_
  refine k_lcmp S dL_charts_561 (n := 562) rfl ?_
  refine k_top 0 (by decide) ?_
  refine k_if_ne S dL_charts_562 (tgt := 587) (by decide) (n := 565) rfl (fun h9 => absurd (by decide) h9) (fun _ => ?_)
  refine k_aload0 S dL_charts_565 (n := 566) rfl ?_
  refine k_iconst S dL_charts_566 (v := 0) (by decide) (n := 567) rfl ?_
  refine k_bipush S dL_charts_567 (v := 7) (by decide) (n := 569) rfl ?_
  refine k_bipush S dL_charts_569 (v := 7) (by decide) (n := 571) rfl ?_
  refine k_iconst S dL_charts_571 (v := 0) (by decide) (n := 572) rfl ?_
  refine k_callV (As := [.int 0, .int 7, .int 7, .int 0]) (rest := []) (p := 0) S (qC44 hn) mv_X3_capability m_606 dL_charts_572 rfl rfl ⟨by decide, by decide⟩ (zlt S (by decide)) (by decide) (ci := 3) rfl rfl rfl (Nat.le_of_ble_eq_true rfl) ⟨by decide, by decide⟩ (n := 575) rfl (fun _ _ h => h.elim) (fun v9 ν9 h9 => ?_)
  rw [h9.1, h9.2]
  show zK x g ({ frames := 11, cells := 740, slots := 4779, locals := 220 } : Room) 1 313 2217 575 [some (.ref (za g 0))] [.long 0] (zOf sC14)
  refine k_lconst S dL_charts_575 (v := 0) (by decide) (n := 576) rfl ?_
  refine k_lcmp S dL_charts_576 (n := 577) rfl ?_
  refine k_top 0 (by decide) ?_
  refine k_if_ne S dL_charts_577 (tgt := 587) (by decide) (n := 580) rfl (fun h9 => absurd (by decide) h9) (fun _ => ?_)
  refine k_aload0 S dL_charts_580 (n := 581) rfl ?_
  refine k_callS (As := [.ref (za g 0)]) (rest := []) S (qC45 hn) mv_L_refuses m_344 dL_charts_581 rfl rfl ⟨by decide, by decide⟩ rfl rfl (Nat.le_of_ble_eq_true rfl) ⟨by decide, by decide⟩ (n := 584) rfl (fun _ _ h => h.elim) (fun v9 ν9 h9 => ?_)
  rw [h9.1, h9.2]
  show zK x g ({ frames := 11, cells := 740, slots := 4779, locals := 220 } : Room) 1 505 3369 584 [some (.ref (za g 0))] [.int 1] (zOf sC14)
  refine k_if_ne S dL_charts_584 (tgt := 589) (by decide) (n := 587) rfl (fun _ => ?_) (fun h9 => absurd h9 (by decide))
  refine k_aload0 S dL_charts_589 (n := 590) rfl ?_
  refine k_iconst S dL_charts_590 (v := 3) (by decide) (n := 591) rfl ?_
  refine k_iconst S dL_charts_591 (v := 4) (by decide) (n := 592) rfl ?_
  refine k_callV (As := [.int 3, .int 4]) (rest := []) (p := 0) S (qC46 hn) mv_X3_exclude m_471 dL_charts_592 rfl rfl ⟨by decide, by decide⟩ (zlt S (by decide)) (by decide) (ci := 3) rfl rfl rfl (Nat.le_of_ble_eq_true rfl) ⟨by decide, by decide⟩ (n := 595) rfl (fun _ _ h => h.elim) (fun v9 ν9 h9 => ?_)
  rw [h9.1, h9.2]
  show zK x g ({ frames := 11, cells := 740, slots := 4779, locals := 220 } : Room) 1 507 3381 595 [some (.ref (za g 0))] [.int 0] (zOf sC15)
  refine k_if_ne S dL_charts_595 (tgt := 810) (by decide) (n := 598) rfl (fun h9 => absurd (by decide) h9) (fun _ => ?_)
  refine k_aload0 S dL_charts_598 (n := 599) rfl ?_
  refine k_iconst S dL_charts_599 (v := 0) (by decide) (n := 600) rfl ?_
  refine k_callV (As := [.int 0]) (rest := []) (p := 0) S (qC47 hn) mv_X3_points m_493 dL_charts_600 rfl rfl ⟨by decide, by decide⟩ (zlt S (by decide)) (by decide) (ci := 3) rfl rfl rfl (Nat.le_of_ble_eq_true rfl) ⟨by decide, by decide⟩ (n := 603) rfl (fun _ _ h => h.elim) (fun v9 ν9 h9 => ?_)
  rw [h9.1, h9.2]
  show zK x g ({ frames := 11, cells := 740, slots := 4779, locals := 220 } : Room) 1 508 3387 603 [some (.ref (za g 0))] [.int 3] (zOf sC15)
  exact gC7 S hn hend
set_option maxRecDepth 100000 in
set_option maxHeartbeats 4000000 in
theorem gC5 {x : zX} {g : zG} (S : zS x g 1 cL_charts RL) (hn : zn g = 21) (hend : ∀ (ce sl : Nat) (L : List (Option Value)) (μ : zM), ce ≤ 740 → sl ≤ 4779 → zK x g ({ frames := 11, cells := 740, slots := 4779, locals := 220 } : Room) 1 ce sl 811 L [.int 1] μ) : zK x g ({ frames := 11, cells := 740, slots := 4779, locals := 220 } : Room) 1 288 2067 417 [some (.ref (za g 0))] [.int 0] (zOf sC13) := by
  refine k_if_ne S dL_charts_417 (tgt := 587) (by decide) (n := 420) rfl (fun h9 => absurd (by decide) h9) (fun _ => ?_)
  refine k_aload0 S dL_charts_420 (n := 421) rfl ?_
  refine k_iconst S dL_charts_421 (v := 2) (by decide) (n := 422) rfl ?_
  refine k_callV (As := [.int 2]) (rest := []) (p := 0) S (qC32 hn) mv_X3_setWeight m_585 dL_charts_422 rfl rfl ⟨by decide, by decide⟩ (zlt S (by decide)) (by decide) (ci := 3) rfl rfl rfl (Nat.le_of_ble_eq_true rfl) ⟨by decide, by decide⟩ (n := 425) rfl (fun _ _ h => h.elim) (fun v9 ν9 h9 => ?_)
  rw [h9.1, h9.2]
  show zK x g ({ frames := 11, cells := 740, slots := 4779, locals := 220 } : Room) 1 289 2073 425 [some (.ref (za g 0))] [.int 1] (zOf sC14)
  refine k_iconst S dL_charts_425 (v := 1) (by decide) (n := 426) rfl ?_
  refine k_icmp_ne S dL_charts_426 (tgt := 587) (by decide) (n := 429) rfl (fun h9 => absurd (by decide) h9) (fun _ => ?_)
  refine k_aload0 S dL_charts_429 (n := 430) rfl ?_
  refine k_iconst S dL_charts_430 (v := 0) (by decide) (n := 431) rfl ?_
  refine k_callV (As := [.int 0]) (rest := []) (p := 0) S (qC33 hn) mv_X3_weighted m_590 dL_charts_431 rfl rfl ⟨by decide, by decide⟩ (zlt S (by decide)) (by decide) (ci := 3) rfl rfl rfl (Nat.le_of_ble_eq_true rfl) ⟨by decide, by decide⟩ (n := 434) rfl (fun _ _ h => h.elim) (fun v9 ν9 h9 => ?_)
  rw [h9.1, h9.2]
  show zK x g ({ frames := 11, cells := 740, slots := 4779, locals := 220 } : Room) 1 291 2085 434 [some (.ref (za g 0))] [.int 14800] (zOf sC14)
  refine k_sipush S dL_charts_434 (v := 14800) (by decide) (n := 437) rfl ?_
  refine k_icmp_ne S dL_charts_437 (tgt := 587) (by decide) (n := 440) rfl (fun h9 => absurd (by decide) h9) (fun _ => ?_)
  refine k_aload0 S dL_charts_440 (n := 441) rfl ?_
  refine k_iconst S dL_charts_441 (v := 1) (by decide) (n := 442) rfl ?_
  refine k_callV (As := [.int 1]) (rest := []) (p := 0) S (qC34 hn) mv_X3_weighted m_590 dL_charts_442 rfl rfl ⟨by decide, by decide⟩ (zlt S (by decide)) (by decide) (ci := 3) rfl rfl rfl (Nat.le_of_ble_eq_true rfl) ⟨by decide, by decide⟩ (n := 445) rfl (fun _ _ h => h.elim) (fun v9 ν9 h9 => ?_)
  rw [h9.1, h9.2]
  show zK x g ({ frames := 11, cells := 740, slots := 4779, locals := 220 } : Room) 1 293 2097 445 [some (.ref (za g 0))] [.int 13640] (zOf sC14)
  refine k_sipush S dL_charts_445 (v := 13640) (by decide) (n := 448) rfl ?_
  refine k_icmp_ne S dL_charts_448 (tgt := 587) (by decide) (n := 451) rfl (fun h9 => absurd (by decide) h9) (fun _ => ?_)
  refine k_aload0 S dL_charts_451 (n := 452) rfl ?_
  refine k_iconst S dL_charts_452 (v := 2) (by decide) (n := 453) rfl ?_
  refine k_callV (As := [.int 2]) (rest := []) (p := 0) S (qC35 hn) mv_X3_weighted m_590 dL_charts_453 rfl rfl ⟨by decide, by decide⟩ (zlt S (by decide)) (by decide) (ci := 3) rfl rfl rfl (Nat.le_of_ble_eq_true rfl) ⟨by decide, by decide⟩ (n := 456) rfl (fun _ _ h => h.elim) (fun v9 ν9 h9 => ?_)
  rw [h9.1, h9.2]
  show zK x g ({ frames := 11, cells := 740, slots := 4779, locals := 220 } : Room) 1 295 2109 456 [some (.ref (za g 0))] [.int 14512] (zOf sC14)
  refine k_sipush S dL_charts_456 (v := 14512) (by decide) (n := 459) rfl ?_
  refine k_icmp_ne S dL_charts_459 (tgt := 587) (by decide) (n := 462) rfl (fun h9 => absurd (by decide) h9) (fun _ => ?_)
  refine k_aload0 S dL_charts_462 (n := 463) rfl ?_
  refine k_iconst S dL_charts_463 (v := 0) (by decide) (n := 464) rfl ?_
  refine k_iconst S dL_charts_464 (v := 1) (by decide) (n := 465) rfl ?_
  refine k_callV (As := [.int 0, .int 1]) (rest := []) (p := 0) S (qC36 hn) mv_X3_cumulative m_602 dL_charts_465 rfl rfl ⟨by decide, by decide⟩ (zlt S (by decide)) (by decide) (ci := 3) rfl rfl rfl (Nat.le_of_ble_eq_true rfl) ⟨by decide, by decide⟩ (n := 468) rfl (fun _ _ h => h.elim) (fun v9 ν9 h9 => ?_)
  rw [h9.1, h9.2]
  show zK x g ({ frames := 11, cells := 740, slots := 4779, locals := 220 } : Room) 1 297 2121 468 [some (.ref (za g 0))] [.int 0] (zOf sC14)
  refine k_if_ne S dL_charts_468 (tgt := 587) (by decide) (n := 471) rfl (fun h9 => absurd (by decide) h9) (fun _ => ?_)
  refine k_aload0 S dL_charts_471 (n := 472) rfl ?_
  refine k_iconst S dL_charts_472 (v := 3) (by decide) (n := 473) rfl ?_
  refine k_iconst S dL_charts_473 (v := 1) (by decide) (n := 474) rfl ?_
  refine k_callV (As := [.int 3, .int 1]) (rest := []) (p := 0) S (qC37 hn) mv_X3_cumulative m_602 dL_charts_474 rfl rfl ⟨by decide, by decide⟩ (zlt S (by decide)) (by decide) (ci := 3) rfl rfl rfl (Nat.le_of_ble_eq_true rfl) ⟨by decide, by decide⟩ (n := 477) rfl (fun _ _ h => h.elim) (fun v9 ν9 h9 => ?_)
  rw [h9.1, h9.2]
  show zK x g ({ frames := 11, cells := 740, slots := 4779, locals := 220 } : Room) 1 299 2133 477 [some (.ref (za g 0))] [.int 4864] (zOf sC14)
  refine k_sipush S dL_charts_477 (v := 4864) (by decide) (n := 480) rfl ?_
  refine k_icmp_ne S dL_charts_480 (tgt := 587) (by decide) (n := 483) rfl (fun h9 => absurd (by decide) h9) (fun _ => ?_)
  refine k_aload0 S dL_charts_483 (n := 484) rfl ?_
  refine k_iconst S dL_charts_484 (v := 0) (by decide) (n := 485) rfl ?_
  refine k_iconst S dL_charts_485 (v := 0) (by decide) (n := 486) rfl ?_
  refine k_callV (As := [.int 0, .int 0]) (rest := []) (p := 0) S (qC38 hn) mv_X3_cumulative m_602 dL_charts_486 rfl rfl ⟨by decide, by decide⟩ (zlt S (by decide)) (by decide) (ci := 3) rfl rfl rfl (Nat.le_of_ble_eq_true rfl) ⟨by decide, by decide⟩ (n := 489) rfl (fun _ _ h => h.elim) (fun v9 ν9 h9 => ?_)
  rw [h9.1, h9.2]
  show zK x g ({ frames := 11, cells := 740, slots := 4779, locals := 220 } : Room) 1 301 2145 489 [some (.ref (za g 0))] [.int 364] (zOf sC14)
  refine k_sipush S dL_charts_489 (v := 364) (by decide) (n := 492) rfl ?_
  refine k_icmp_ne S dL_charts_492 (tgt := 587) (by decide) (n := 495) rfl (fun h9 => absurd (by decide) h9) (fun _ => ?_)
  refine k_aload0 S dL_charts_495 (n := 496) rfl ?_
  refine k_iconst S dL_charts_496 (v := 1) (by decide) (n := 497) rfl ?_
  refine k_iconst S dL_charts_497 (v := 0) (by decide) (n := 498) rfl ?_
  refine k_callV (As := [.int 1, .int 0]) (rest := []) (p := 0) S (qC39 hn) mv_X3_cumulative m_602 dL_charts_498 rfl rfl ⟨by decide, by decide⟩ (zlt S (by decide)) (by decide) (ci := 3) rfl rfl rfl (Nat.le_of_ble_eq_true rfl) ⟨by decide, by decide⟩ (n := 501) rfl (fun _ _ h => h.elim) (fun v9 ν9 h9 => ?_)
  rw [h9.1, h9.2]
  show zK x g ({ frames := 11, cells := 740, slots := 4779, locals := 220 } : Room) 1 303 2157 501 [some (.ref (za g 0))] [.int 2728] (zOf sC14)
  exact gC6 S hn hend
set_option maxRecDepth 100000 in
set_option maxHeartbeats 4000000 in
theorem gC4 {x : zX} {g : zG} (S : zS x g 1 cL_charts RL) (hn : zn g = 21) (hend : ∀ (ce sl : Nat) (L : List (Option Value)) (μ : zM), ce ≤ 740 → sl ≤ 4779 → zK x g ({ frames := 11, cells := 740, slots := 4779, locals := 220 } : Room) 1 ce sl 811 L [.int 1] μ) : zK x g ({ frames := 11, cells := 740, slots := 4779, locals := 220 } : Room) 1 274 1983 338 [some (.ref (za g 0))] [.int ((-1))] (zOf sC10) := by
  refine k_iconst S dL_charts_338 (v := (-1)) (by decide) (n := 339) rfl ?_
  refine k_icmp_ne S dL_charts_339 (tgt := 370) (by decide) (n := 342) rfl (fun h9 => absurd (by decide) h9) (fun _ => ?_)
  refine k_aload0 S dL_charts_342 (n := 343) rfl ?_
  refine k_callV (As := []) (rest := []) (p := 0) S (qC25 hn) mv_X3_alarms m_351 dL_charts_343 rfl rfl ⟨by decide, by decide⟩ (zlt S (by decide)) (by decide) (ci := 3) rfl rfl rfl (Nat.le_of_ble_eq_true rfl) ⟨by decide, by decide⟩ (n := 346) rfl (fun _ _ h => h.elim) (fun v9 ν9 h9 => ?_)
  rw [h9.1, h9.2]
  show zK x g ({ frames := 11, cells := 740, slots := 4779, locals := 220 } : Room) 1 274 1983 346 [some (.ref (za g 0))] [.int 2] (zOf sC10)
  refine k_iconst S dL_charts_346 (v := 2) (by decide) (n := 347) rfl ?_
  refine k_icmp_ne S dL_charts_347 (tgt := 370) (by decide) (n := 350) rfl (fun h9 => absurd (by decide) h9) (fun _ => ?_)
  refine k_aload0 S dL_charts_350 (n := 351) rfl ?_
  refine k_iconst S dL_charts_351 (v := 1) (by decide) (n := 352) rfl ?_
  refine k_callV (As := [.int 1]) (rest := []) (p := 0) S (qC26 hn) mv_X3_setWeight m_585 dL_charts_352 rfl rfl ⟨by decide, by decide⟩ (zlt S (by decide)) (by decide) (ci := 3) rfl rfl rfl (Nat.le_of_ble_eq_true rfl) ⟨by decide, by decide⟩ (n := 355) rfl (fun _ _ h => h.elim) (fun v9 ν9 h9 => ?_)
  rw [h9.1, h9.2]
  show zK x g ({ frames := 11, cells := 740, slots := 4779, locals := 220 } : Room) 1 275 1989 355 [some (.ref (za g 0))] [.int 2] (zOf sC11)
  refine k_iconst S dL_charts_355 (v := 2) (by decide) (n := 356) rfl ?_
  refine k_icmp_ne S dL_charts_356 (tgt := 370) (by decide) (n := 359) rfl (fun h9 => absurd (by decide) h9) (fun _ => ?_)
  refine k_aload0 S dL_charts_359 (n := 360) rfl ?_
  refine k_iconst S dL_charts_360 (v := 0) (by decide) (n := 361) rfl ?_
  refine k_callV (As := [.int 0]) (rest := []) (p := 0) S (qC27 hn) mv_X3_weighted m_590 dL_charts_361 rfl rfl ⟨by decide, by decide⟩ (zlt S (by decide)) (by decide) (ci := 3) rfl rfl rfl (Nat.le_of_ble_eq_true rfl) ⟨by decide, by decide⟩ (n := 364) rfl (fun _ _ h => h.elim) (fun v9 ν9 h9 => ?_)
  rw [h9.1, h9.2]
  show zK x g ({ frames := 11, cells := 740, slots := 4779, locals := 220 } : Room) 1 277 2001 364 [some (.ref (za g 0))] [.int 12500] (zOf sC11)
  refine k_sipush S dL_charts_364 (v := 12500) (by decide) (n := 367) rfl ?_
  refine k_icmp_eq S dL_charts_367 (tgt := 372) (by decide) (n := 370) rfl (fun _ => ?_) (fun h9 => absurd (by decide) h9)
  refine k_aload0 S dL_charts_372 (n := 373) rfl ?_
  refine k_iconst S dL_charts_373 (v := 0) (by decide) (n := 374) rfl ?_
  refine k_callH (As := [.ref (za g 0), .int 0]) (rest := []) S (y_thaws (qC28 hn)) mv_L_thaws m_449 dL_charts_374 rfl rfl ⟨by decide, by decide⟩ rfl rfl (Nat.le_of_ble_eq_true rfl) ⟨by decide, by decide⟩ (n := 377) rfl (fun _ _ h => h.elim) (fun v9 ν9 h9 => ?_)
  rw [h9.1, h9.2]
  show zK x g ({ frames := 11, cells := 740, slots := 4779, locals := 220 } : Room) 1 279 2013 377 [some (.ref (za g 0))] [.int 0] (zOf sC12)
  refine k_if_ne S dL_charts_377 (tgt := 587) (by decide) (n := 380) rfl (fun h9 => absurd (by decide) h9) (fun _ => ?_)
  refine k_aload0 S dL_charts_380 (n := 381) rfl ?_
  refine k_iconst S dL_charts_381 (v := 0) (by decide) (n := 382) rfl ?_
  refine k_callH (As := [.ref (za g 0), .int 0]) (rest := []) S (x_thaws (Or.inr rfl) (n_thaw_state vC12 (k := 0) (by decide) (by decide +kernel))) mv_L_thaws m_449 dL_charts_382 rfl rfl ⟨by decide, by decide⟩ rfl rfl (Nat.le_of_ble_eq_true rfl) ⟨by decide, by decide⟩ (n := 385) rfl (fun _ _ h => h.elim) (fun v9 ν9 h9 => ?_)
  rw [h9.1, h9.2]
  show zK x g ({ frames := 11, cells := 740, slots := 4779, locals := 220 } : Room) 1 281 2025 385 [some (.ref (za g 0))] [.int ((if "java/lang/IllegalStateException" = "java/lang/IndexOutOfBoundsException" then (-11 : Int32) else (-13)))] (zOf sC12)
  refine k_top (-13) (if_neg (by decide)) ?_
  refine k_bipush S dL_charts_385 (v := (-13)) (by decide) (n := 387) rfl ?_
  refine k_icmp_ne S dL_charts_387 (tgt := 587) (by decide) (n := 390) rfl (fun h9 => absurd (by decide) h9) (fun _ => ?_)
  refine k_aload0 S dL_charts_390 (n := 391) rfl ?_
  refine k_sipush S dL_charts_391 (v := 15750) (by decide) (n := 394) rfl ?_
  refine k_sipush S dL_charts_394 (v := 26320) (by decide) (n := 397) rfl ?_
  refine k_ldc S dL_charts_397 (v := 45738) m_633 (n := 399) rfl ?_
  refine k_callS (As := [.ref (za g 0), .int 15750, .int 26320, .int 45738]) (rest := []) S (qC29 hn) mv_L_limits m_627 dL_charts_399 rfl rfl ⟨by decide, by decide⟩ rfl rfl (Nat.le_of_ble_eq_true rfl) ⟨by decide, by decide⟩ (n := 402) rfl (fun _ _ h => h.elim) (fun v9 ν9 h9 => ?_)
  rw [h9.1, h9.2]
  show zK x g ({ frames := 11, cells := 740, slots := 4779, locals := 220 } : Room) 1 287 2061 402 [some (.ref (za g 0))] [.int 1] (zOf sC12)
  refine k_if_eq S dL_charts_402 (tgt := 587) (by decide) (n := 405) rfl (fun h9 => absurd h9 (by decide)) (fun _ => ?_)
  refine k_aload0 S dL_charts_405 (n := 406) rfl ?_
  refine k_iconst S dL_charts_406 (v := 3) (by decide) (n := 407) rfl ?_
  refine k_callV (As := [.int 3]) (rest := []) (p := 0) S (qC30 hn) mv_X3_isWide m_581 dL_charts_407 rfl rfl ⟨by decide, by decide⟩ (zlt S (by decide)) (by decide) (ci := 3) rfl rfl rfl (Nat.le_of_ble_eq_true rfl) ⟨by decide, by decide⟩ (n := 410) rfl (fun _ _ h => h.elim) (fun v9 ν9 h9 => ?_)
  rw [h9.1, h9.2]
  show zK x g ({ frames := 11, cells := 740, slots := 4779, locals := 220 } : Room) 1 288 2067 410 [some (.ref (za g 0))] [.int 1] (zOf sC12)
  refine k_if_eq S dL_charts_410 (tgt := 587) (by decide) (n := 413) rfl (fun h9 => absurd h9 (by decide)) (fun _ => ?_)
  refine k_aload0 S dL_charts_413 (n := 414) rfl ?_
  refine k_callV (As := []) (rest := []) (p := 0) S (qC31 hn) mv_X3_alarms m_351 dL_charts_414 rfl rfl ⟨by decide, by decide⟩ (zlt S (by decide)) (by decide) (ci := 3) rfl rfl rfl (Nat.le_of_ble_eq_true rfl) ⟨by decide, by decide⟩ (n := 417) rfl (fun _ _ h => h.elim) (fun v9 ν9 h9 => ?_)
  rw [h9.1, h9.2]
  show zK x g ({ frames := 11, cells := 740, slots := 4779, locals := 220 } : Room) 1 288 2067 417 [some (.ref (za g 0))] [.int 0] (zOf sC13)
  exact gC5 S hn hend
set_option maxRecDepth 100000 in
set_option maxHeartbeats 4000000 in
theorem gC3 {x : zX} {g : zG} (S : zS x g 1 cL_charts RL) (hn : zn g = 21) (hend : ∀ (ce sl : Nat) (L : List (Option Value)) (μ : zM), ce ≤ 740 → sl ≤ 4779 → zK x g ({ frames := 11, cells := 740, slots := 4779, locals := 220 } : Room) 1 ce sl 811 L [.int 1] μ) : zK x g ({ frames := 11, cells := 740, slots := 4779, locals := 220 } : Room) 1 255 1869 255 [some (.ref (za g 0))] [.int 0] (zOf sC8) := by
  refine k_if_ne S dL_charts_255 (tgt := 370) (by decide) (n := 258) rfl (fun h9 => absurd (by decide) h9) (fun _ => ?_)
  refine k_aload0 S dL_charts_258 (n := 259) rfl ?_
  refine k_iconst S dL_charts_259 (v := 0) (by decide) (n := 260) rfl ?_
  refine k_callH (As := [.ref (za g 0), .int 0]) (rest := []) S (x_holds (Or.inr rfl) (n_freeze_state vC8 (k := 0) (by decide) (by decide +kernel))) mv_L_holds m_418 dL_charts_260 rfl rfl ⟨by decide, by decide⟩ rfl rfl (Nat.le_of_ble_eq_true rfl) ⟨by decide, by decide⟩ (n := 263) rfl (fun _ _ h => h.elim) (fun v9 ν9 h9 => ?_)
  rw [h9.1, h9.2]
  show zK x g ({ frames := 11, cells := 740, slots := 4779, locals := 220 } : Room) 1 257 1881 263 [some (.ref (za g 0))] [.int ((if "java/lang/IllegalStateException" = "java/lang/IndexOutOfBoundsException" then (-11 : Int32) else (-13)))] (zOf sC8)
  refine k_top (-13) (if_neg (by decide)) ?_
  refine k_bipush S dL_charts_263 (v := (-13)) (by decide) (n := 265) rfl ?_
  refine k_icmp_ne S dL_charts_265 (tgt := 370) (by decide) (n := 268) rfl (fun h9 => absurd (by decide) h9) (fun _ => ?_)
  refine k_aload0 S dL_charts_268 (n := 269) rfl ?_
  refine k_iconst S dL_charts_269 (v := 0) (by decide) (n := 270) rfl ?_
  refine k_bipush S dL_charts_270 (v := 50) (by decide) (n := 272) rfl ?_
  refine k_callS (As := [.ref (za g 0), .int 0, .int 50]) (rest := []) S (qC18 hn) mv_L_two m_624 dL_charts_272 rfl rfl ⟨by decide, by decide⟩ rfl rfl (Nat.le_of_ble_eq_true rfl) ⟨by decide, by decide⟩ (n := 275) rfl (fun _ _ h => h.elim) (fun v9 ν9 h9 => ?_)
  rw [h9.1, h9.2]
  show zK x g ({ frames := 11, cells := 740, slots := 4779, locals := 220 } : Room) 1 259 1893 275 [some (.ref (za g 0))] [.int 1] (zOf sC9)
  refine k_if_eq S dL_charts_275 (tgt := 370) (by decide) (n := 278) rfl (fun h9 => absurd h9 (by decide)) (fun _ => ?_)
  refine k_aload0 S dL_charts_278 (n := 279) rfl ?_
  refine k_sipush S dL_charts_279 (v := 12667) (by decide) (n := 282) rfl ?_
  refine k_sipush S dL_charts_282 (v := 3760) (by decide) (n := 285) rfl ?_
  refine k_sipush S dL_charts_285 (v := 6534) (by decide) (n := 288) rfl ?_
  refine k_callS (As := [.ref (za g 0), .int 12667, .int 3760, .int 6534]) (rest := []) S (qC19 hn) mv_L_limits m_627 dL_charts_288 rfl rfl ⟨by decide, by decide⟩ rfl rfl (Nat.le_of_ble_eq_true rfl) ⟨by decide, by decide⟩ (n := 291) rfl (fun _ _ h => h.elim) (fun v9 ν9 h9 => ?_)
  rw [h9.1, h9.2]
  show zK x g ({ frames := 11, cells := 740, slots := 4779, locals := 220 } : Room) 1 265 1929 291 [some (.ref (za g 0))] [.int 1] (zOf sC9)
  refine k_if_eq S dL_charts_291 (tgt := 370) (by decide) (n := 294) rfl (fun h9 => absurd h9 (by decide)) (fun _ => ?_)
  refine k_aload0 S dL_charts_294 (n := 295) rfl ?_
  refine k_iconst S dL_charts_295 (v := 3) (by decide) (n := 296) rfl ?_
  refine k_callV (As := [.int 3]) (rest := []) (p := 0) S (qC20 hn) mv_X3_isWide m_581 dL_charts_296 rfl rfl ⟨by decide, by decide⟩ (zlt S (by decide)) (by decide) (ci := 3) rfl rfl rfl (Nat.le_of_ble_eq_true rfl) ⟨by decide, by decide⟩ (n := 299) rfl (fun _ _ h => h.elim) (fun v9 ν9 h9 => ?_)
  rw [h9.1, h9.2]
  show zK x g ({ frames := 11, cells := 740, slots := 4779, locals := 220 } : Room) 1 266 1935 299 [some (.ref (za g 0))] [.int 1] (zOf sC9)
  refine k_if_eq S dL_charts_299 (tgt := 370) (by decide) (n := 302) rfl (fun h9 => absurd h9 (by decide)) (fun _ => ?_)
  refine k_aload0 S dL_charts_302 (n := 303) rfl ?_
  refine k_iconst S dL_charts_303 (v := 3) (by decide) (n := 304) rfl ?_
  refine k_bipush S dL_charts_304 (v := 34) (by decide) (n := 306) rfl ?_
  refine k_callS (As := [.ref (za g 0), .int 3, .int 34]) (rest := []) S (qC21 hn) mv_L_breaks m_630 dL_charts_306 rfl rfl ⟨by decide, by decide⟩ rfl rfl (Nat.le_of_ble_eq_true rfl) ⟨by decide, by decide⟩ (n := 309) rfl (fun _ _ h => h.elim) (fun v9 ν9 h9 => ?_)
  rw [h9.1, h9.2]
  show zK x g ({ frames := 11, cells := 740, slots := 4779, locals := 220 } : Room) 1 268 1947 309 [some (.ref (za g 0))] [.int 1] (zOf sC10)
  refine k_if_eq S dL_charts_309 (tgt := 370) (by decide) (n := 312) rfl (fun h9 => absurd h9 (by decide)) (fun _ => ?_)
  refine k_aload0 S dL_charts_312 (n := 313) rfl ?_
  refine k_iconst S dL_charts_313 (v := 3) (by decide) (n := 314) rfl ?_
  refine k_iconst S dL_charts_314 (v := 5) (by decide) (n := 315) rfl ?_
  refine k_callV (As := [.int 3, .int 5]) (rest := []) (p := 0) S (qC22 hn) mv_X3_firstOf m_571 dL_charts_315 rfl rfl ⟨by decide, by decide⟩ (zlt S (by decide)) (by decide) (ci := 3) rfl rfl rfl (Nat.le_of_ble_eq_true rfl) ⟨by decide, by decide⟩ (n := 318) rfl (fun _ _ h => h.elim) (fun v9 ν9 h9 => ?_)
  rw [h9.1, h9.2]
  show zK x g ({ frames := 11, cells := 740, slots := 4779, locals := 220 } : Room) 1 270 1959 318 [some (.ref (za g 0))] [.int 1] (zOf sC10)
  refine k_iconst S dL_charts_318 (v := 1) (by decide) (n := 319) rfl ?_
  refine k_icmp_ne S dL_charts_319 (tgt := 370) (by decide) (n := 322) rfl (fun h9 => absurd (by decide) h9) (fun _ => ?_)
  refine k_aload0 S dL_charts_322 (n := 323) rfl ?_
  refine k_iconst S dL_charts_323 (v := 3) (by decide) (n := 324) rfl ?_
  refine k_iconst S dL_charts_324 (v := 1) (by decide) (n := 325) rfl ?_
  refine k_callV (As := [.int 3, .int 1]) (rest := []) (p := 0) S (qC23 hn) mv_X3_firstOf m_571 dL_charts_325 rfl rfl ⟨by decide, by decide⟩ (zlt S (by decide)) (by decide) (ci := 3) rfl rfl rfl (Nat.le_of_ble_eq_true rfl) ⟨by decide, by decide⟩ (n := 328) rfl (fun _ _ h => h.elim) (fun v9 ν9 h9 => ?_)
  rw [h9.1, h9.2]
  show zK x g ({ frames := 11, cells := 740, slots := 4779, locals := 220 } : Room) 1 272 1971 328 [some (.ref (za g 0))] [.int 3] (zOf sC10)
  refine k_iconst S dL_charts_328 (v := 3) (by decide) (n := 329) rfl ?_
  refine k_icmp_ne S dL_charts_329 (tgt := 370) (by decide) (n := 332) rfl (fun h9 => absurd (by decide) h9) (fun _ => ?_)
  refine k_aload0 S dL_charts_332 (n := 333) rfl ?_
  refine k_iconst S dL_charts_333 (v := 3) (by decide) (n := 334) rfl ?_
  refine k_iconst S dL_charts_334 (v := 2) (by decide) (n := 335) rfl ?_
  refine k_callV (As := [.int 3, .int 2]) (rest := []) (p := 0) S (qC24 hn) mv_X3_firstOf m_571 dL_charts_335 rfl rfl ⟨by decide, by decide⟩ (zlt S (by decide)) (by decide) (ci := 3) rfl rfl rfl (Nat.le_of_ble_eq_true rfl) ⟨by decide, by decide⟩ (n := 338) rfl (fun _ _ h => h.elim) (fun v9 ν9 h9 => ?_)
  rw [h9.1, h9.2]
  show zK x g ({ frames := 11, cells := 740, slots := 4779, locals := 220 } : Room) 1 274 1983 338 [some (.ref (za g 0))] [.int ((-1))] (zOf sC10)
  exact gC4 S hn hend
set_option maxRecDepth 100000 in
set_option maxHeartbeats 4000000 in
theorem gC2 {x : zX} {g : zG} (S : zS x g 1 cL_charts RL) (hn : zn g = 21) (hend : ∀ (ce sl : Nat) (L : List (Option Value)) (μ : zM), ce ≤ 740 → sl ≤ 4779 → zK x g ({ frames := 11, cells := 740, slots := 4779, locals := 220 } : Room) 1 ce sl 811 L [.int 1] μ) : zK x g ({ frames := 11, cells := 740, slots := 4779, locals := 220 } : Room) 1 232 1731 169 [some (.ref (za g 0))] [.int 1] (zOf sC3) := by
  refine k_if_eq S dL_charts_169 (tgt := 370) (by decide) (n := 172) rfl (fun h9 => absurd h9 (by decide)) (fun _ => ?_)
  refine k_aload0 S dL_charts_172 (n := 173) rfl ?_
  refine k_sipush S dL_charts_173 (v := 10000) (by decide) (n := 176) rfl ?_
  refine k_sipush S dL_charts_176 (v := 1880) (by decide) (n := 179) rfl ?_
  refine k_sipush S dL_charts_179 (v := 3267) (by decide) (n := 182) rfl ?_
  refine k_callS (As := [.ref (za g 0), .int 10000, .int 1880, .int 3267]) (rest := []) S (qC10 hn) mv_L_limits m_627 dL_charts_182 rfl rfl ⟨by decide, by decide⟩ rfl rfl (Nat.le_of_ble_eq_true rfl) ⟨by decide, by decide⟩ (n := 185) rfl (fun _ _ h => h.elim) (fun v9 ν9 h9 => ?_)
  rw [h9.1, h9.2]
  show zK x g ({ frames := 11, cells := 740, slots := 4779, locals := 220 } : Room) 1 238 1767 185 [some (.ref (za g 0))] [.int 1] (zOf sC3)
  refine k_if_eq S dL_charts_185 (tgt := 370) (by decide) (n := 188) rfl (fun h9 => absurd h9 (by decide)) (fun _ => ?_)
  refine k_aload0 S dL_charts_188 (n := 189) rfl ?_
  refine k_iconst S dL_charts_189 (v := 1) (by decide) (n := 190) rfl ?_
  refine k_iconst S dL_charts_190 (v := 0) (by decide) (n := 191) rfl ?_
  refine k_callS (As := [.ref (za g 0), .int 1, .int 0]) (rest := []) S (qC11 hn) mv_L_breaks m_630 dL_charts_191 rfl rfl ⟨by decide, by decide⟩ rfl rfl (Nat.le_of_ble_eq_true rfl) ⟨by decide, by decide⟩ (n := 194) rfl (fun _ _ h => h.elim) (fun v9 ν9 h9 => ?_)
  rw [h9.1, h9.2]
  show zK x g ({ frames := 11, cells := 740, slots := 4779, locals := 220 } : Room) 1 240 1779 194 [some (.ref (za g 0))] [.int 1] (zOf sC4)
  refine k_if_eq S dL_charts_194 (tgt := 370) (by decide) (n := 197) rfl (fun h9 => absurd h9 (by decide)) (fun _ => ?_)
  refine k_aload0 S dL_charts_197 (n := 198) rfl ?_
  refine k_bipush S dL_charts_198 (v := 20) (by decide) (n := 200) rfl ?_
  refine k_bipush S dL_charts_200 (v := 16) (by decide) (n := 202) rfl ?_
  refine k_callS (As := [.ref (za g 0), .int 20, .int 16]) (rest := []) S (qC12 hn) mv_L_two m_624 dL_charts_202 rfl rfl ⟨by decide, by decide⟩ rfl rfl (Nat.le_of_ble_eq_true rfl) ⟨by decide, by decide⟩ (n := 205) rfl (fun _ _ h => h.elim) (fun v9 ν9 h9 => ?_)
  rw [h9.1, h9.2]
  show zK x g ({ frames := 11, cells := 740, slots := 4779, locals := 220 } : Room) 1 242 1791 205 [some (.ref (za g 0))] [.int 1] (zOf sC5)
  refine k_if_eq S dL_charts_205 (tgt := 370) (by decide) (n := 208) rfl (fun h9 => absurd h9 (by decide)) (fun _ => ?_)
  refine k_aload0 S dL_charts_208 (n := 209) rfl ?_
  refine k_sipush S dL_charts_209 (v := 12667) (by decide) (n := 212) rfl ?_
  refine k_sipush S dL_charts_212 (v := 3760) (by decide) (n := 215) rfl ?_
  refine k_sipush S dL_charts_215 (v := 6534) (by decide) (n := 218) rfl ?_
  refine k_callS (As := [.ref (za g 0), .int 12667, .int 3760, .int 6534]) (rest := []) S (qC13 hn) mv_L_limits m_627 dL_charts_218 rfl rfl ⟨by decide, by decide⟩ rfl rfl (Nat.le_of_ble_eq_true rfl) ⟨by decide, by decide⟩ (n := 221) rfl (fun _ _ h => h.elim) (fun v9 ν9 h9 => ?_)
  rw [h9.1, h9.2]
  show zK x g ({ frames := 11, cells := 740, slots := 4779, locals := 220 } : Room) 1 248 1827 221 [some (.ref (za g 0))] [.int 1] (zOf sC5)
  refine k_if_eq S dL_charts_221 (tgt := 370) (by decide) (n := 224) rfl (fun h9 => absurd h9 (by decide)) (fun _ => ?_)
  refine k_aload0 S dL_charts_224 (n := 225) rfl ?_
  refine k_iconst S dL_charts_225 (v := 2) (by decide) (n := 226) rfl ?_
  refine k_iconst S dL_charts_226 (v := 2) (by decide) (n := 227) rfl ?_
  refine k_callS (As := [.ref (za g 0), .int 2, .int 2]) (rest := []) S (qC14 hn) mv_L_breaks m_630 dL_charts_227 rfl rfl ⟨by decide, by decide⟩ rfl rfl (Nat.le_of_ble_eq_true rfl) ⟨by decide, by decide⟩ (n := 230) rfl (fun _ _ h => h.elim) (fun v9 ν9 h9 => ?_)
  rw [h9.1, h9.2]
  show zK x g ({ frames := 11, cells := 740, slots := 4779, locals := 220 } : Room) 1 250 1839 230 [some (.ref (za g 0))] [.int 1] (zOf sC6)
  refine k_if_eq S dL_charts_230 (tgt := 370) (by decide) (n := 233) rfl (fun h9 => absurd h9 (by decide)) (fun _ => ?_)
  refine k_aload0 S dL_charts_233 (n := 234) rfl ?_
  refine k_iconst S dL_charts_234 (v := 1) (by decide) (n := 235) rfl ?_
  refine k_iconst S dL_charts_235 (v := 0) (by decide) (n := 236) rfl ?_
  refine k_callS (As := [.ref (za g 0), .int 1, .int 0]) (rest := []) S (qC15 hn) mv_L_breaks m_630 dL_charts_236 rfl rfl ⟨by decide, by decide⟩ rfl rfl (Nat.le_of_ble_eq_true rfl) ⟨by decide, by decide⟩ (n := 239) rfl (fun _ _ h => h.elim) (fun v9 ν9 h9 => ?_)
  rw [h9.1, h9.2]
  show zK x g ({ frames := 11, cells := 740, slots := 4779, locals := 220 } : Room) 1 252 1851 239 [some (.ref (za g 0))] [.int 1] (zOf sC7)
  refine k_if_eq S dL_charts_239 (tgt := 370) (by decide) (n := 242) rfl (fun h9 => absurd h9 (by decide)) (fun _ => ?_)
  refine k_aload0 S dL_charts_242 (n := 243) rfl ?_
  refine k_iconst S dL_charts_243 (v := 2) (by decide) (n := 244) rfl ?_
  refine k_callV (As := [.int 2]) (rest := []) (p := 0) S (qC16 hn) mv_X3_isWide m_581 dL_charts_244 rfl rfl ⟨by decide, by decide⟩ (zlt S (by decide)) (by decide) (ci := 3) rfl rfl rfl (Nat.le_of_ble_eq_true rfl) ⟨by decide, by decide⟩ (n := 247) rfl (fun _ _ h => h.elim) (fun v9 ν9 h9 => ?_)
  rw [h9.1, h9.2]
  show zK x g ({ frames := 11, cells := 740, slots := 4779, locals := 220 } : Room) 1 253 1857 247 [some (.ref (za g 0))] [.int 0] (zOf sC7)
  refine k_if_ne S dL_charts_247 (tgt := 370) (by decide) (n := 250) rfl (fun h9 => absurd (by decide) h9) (fun _ => ?_)
  refine k_aload0 S dL_charts_250 (n := 251) rfl ?_
  refine k_iconst S dL_charts_251 (v := 0) (by decide) (n := 252) rfl ?_
  refine k_callH (As := [.ref (za g 0), .int 0]) (rest := []) S (y_holds (qC17 hn)) mv_L_holds m_418 dL_charts_252 rfl rfl ⟨by decide, by decide⟩ rfl rfl (Nat.le_of_ble_eq_true rfl) ⟨by decide, by decide⟩ (n := 255) rfl (fun _ _ h => h.elim) (fun v9 ν9 h9 => ?_)
  rw [h9.1, h9.2]
  show zK x g ({ frames := 11, cells := 740, slots := 4779, locals := 220 } : Room) 1 255 1869 255 [some (.ref (za g 0))] [.int 0] (zOf sC8)
  exact gC3 S hn hend
set_option maxRecDepth 100000 in
set_option maxHeartbeats 4000000 in
theorem gC1 {x : zX} {g : zG} (S : zS x g 1 cL_charts RL) (hn : zn g = 21) (hend : ∀ (ce sl : Nat) (L : List (Option Value)) (μ : zM), ce ≤ 740 → sl ≤ 4779 → zK x g ({ frames := 11, cells := 740, slots := 4779, locals := 220 } : Room) 1 ce sl 811 L [.int 1] μ) : zK x g ({ frames := 11, cells := 740, slots := 4779, locals := 220 } : Room) 1 30 519 85 [some (.ref (za g 0))] [.int ((-13))] (zOf sC0) := by
  refine k_bipush S dL_charts_85 (v := (-13)) (by decide) (n := 87) rfl ?_
  refine k_icmp_ne S dL_charts_87 (tgt := 370) (by decide) (n := 90) rfl (fun h9 => absurd (by decide) h9) (fun _ => ?_)
  refine k_aload0 S dL_charts_90 (n := 91) rfl ?_
  refine k_iconst S dL_charts_91 (v := 1) (by decide) (n := 92) rfl ?_
  refine k_iconst S dL_charts_92 (v := 0) (by decide) (n := 93) rfl ?_
  refine k_iconst S dL_charts_93 (v := 0) (by decide) (n := 94) rfl ?_
  refine k_iconst S dL_charts_94 (v := 0) (by decide) (n := 95) rfl ?_
  refine k_callH (As := [.ref (za g 0), .int 1, .int 0, .int 0, .int 0]) (rest := []) S (x_act1 (Or.inr (Or.inr rfl)) (n_newPhase vC0 (by unfold zNP; decide +kernel))) mv_L_act m_457 dL_charts_95 rfl rfl ⟨by decide, by decide⟩ rfl rfl (Nat.le_of_ble_eq_true rfl) ⟨by decide, by decide⟩ (n := 98) rfl (fun _ _ h => h.elim) (fun v9 ν9 h9 => ?_)
  rw [h9.1, h9.2]
  show zK x g ({ frames := 11, cells := 740, slots := 4779, locals := 220 } : Room) 1 31 525 98 [some (.ref (za g 0))] [.long ((zcd "java/lang/IllegalStateException"))] (zOf sC0)
  refine k_topl (-99000013) zcd_s ?_
  refine k_ldc2 S dL_charts_98 (v := (-99000013)) m_620 (n := 101) rfl ?_
  refine k_lcmp S dL_charts_101 (n := 102) rfl ?_
  refine k_top 0 (by decide) ?_
  refine k_if_ne S dL_charts_102 (tgt := 370) (by decide) (n := 105) rfl (fun h9 => absurd (by decide) h9) (fun _ => ?_)
  refine k_aload0 S dL_charts_105 (n := 106) rfl ?_
  refine k_callS (As := [.ref (za g 0)]) (rest := []) S (qC4 hn) mv_L_refuses m_344 dL_charts_106 rfl rfl ⟨by decide, by decide⟩ rfl rfl (Nat.le_of_ble_eq_true rfl) ⟨by decide, by decide⟩ (n := 109) rfl (fun _ _ h => h.elim) (fun v9 ν9 h9 => ?_)
  rw [h9.1, h9.2]
  show zK x g ({ frames := 11, cells := 740, slots := 4779, locals := 220 } : Room) 1 223 1677 109 [some (.ref (za g 0))] [.int 1] (zOf sC0)
  refine k_if_eq S dL_charts_109 (tgt := 370) (by decide) (n := 112) rfl (fun h9 => absurd h9 (by decide)) (fun _ => ?_)
  refine k_aload0 S dL_charts_112 (n := 113) rfl ?_
  refine k_iconst S dL_charts_113 (v := 2) (by decide) (n := 114) rfl ?_
  refine k_callH (As := [.ref (za g 0), .int 2]) (rest := []) S (y_begin (qC5 hn)) mv_L_begin m_335 dL_charts_114 rfl rfl ⟨by decide, by decide⟩ rfl rfl (Nat.le_of_ble_eq_true rfl) ⟨by decide, by decide⟩ (n := 117) rfl (fun _ _ h => h.elim) (fun v9 ν9 h9 => ?_)
  rw [h9.1, h9.2]
  show zK x g ({ frames := 11, cells := 740, slots := 4779, locals := 220 } : Room) 1 224 1683 117 [some (.ref (za g 0))] [.int 0] (zOf sC1)
  refine k_if_ne S dL_charts_117 (tgt := 370) (by decide) (n := 120) rfl (fun h9 => absurd (by decide) h9) (fun _ => ?_)
  refine k_aload0 S dL_charts_120 (n := 121) rfl ?_
  refine k_bipush S dL_charts_121 (v := 10) (by decide) (n := 123) rfl ?_
  refine k_bipush S dL_charts_123 (v := 12) (by decide) (n := 125) rfl ?_
  refine k_callS (As := [.ref (za g 0), .int 10, .int 12]) (rest := []) S (qC6 hn) mv_L_two m_624 dL_charts_125 rfl rfl ⟨by decide, by decide⟩ rfl rfl (Nat.le_of_ble_eq_true rfl) ⟨by decide, by decide⟩ (n := 128) rfl (fun _ _ h => h.elim) (fun v9 ν9 h9 => ?_)
  rw [h9.1, h9.2]
  show zK x g ({ frames := 11, cells := 740, slots := 4779, locals := 220 } : Room) 1 226 1695 128 [some (.ref (za g 0))] [.int 1] (zOf sC2)
  refine k_if_eq S dL_charts_128 (tgt := 370) (by decide) (n := 131) rfl (fun h9 => absurd h9 (by decide)) (fun _ => ?_)
  refine k_aload0 S dL_charts_131 (n := 132) rfl ?_
  refine k_iconst S dL_charts_132 (v := 0) (by decide) (n := 133) rfl ?_
  refine k_callV (As := [.int 0]) (rest := []) (p := 0) S (qC7 hn) mv_X3_mean m_481 dL_charts_133 rfl rfl ⟨by decide, by decide⟩ (zlt S (by decide)) (by decide) (ci := 3) rfl rfl rfl (Nat.le_of_ble_eq_true rfl) ⟨by decide, by decide⟩ (n := 136) rfl (fun _ _ h => h.elim) (fun v9 ν9 h9 => ?_)
  rw [h9.1, h9.2]
  show zK x g ({ frames := 11, cells := 740, slots := 4779, locals := 220 } : Room) 1 227 1701 136 [some (.ref (za g 0))] [.int 11000] (zOf sC2)
  refine k_sipush S dL_charts_136 (v := 11000) (by decide) (n := 139) rfl ?_
  refine k_icmp_ne S dL_charts_139 (tgt := 370) (by decide) (n := 142) rfl (fun h9 => absurd (by decide) h9) (fun _ => ?_)
  refine k_aload0 S dL_charts_142 (n := 143) rfl ?_
  refine k_iconst S dL_charts_143 (v := 0) (by decide) (n := 144) rfl ?_
  refine k_callV (As := [.int 0]) (rest := []) (p := 0) S (qC8 hn) mv_X3_range m_485 dL_charts_144 rfl rfl ⟨by decide, by decide⟩ (zlt S (by decide)) (by decide) (ci := 3) rfl rfl rfl (Nat.le_of_ble_eq_true rfl) ⟨by decide, by decide⟩ (n := 147) rfl (fun _ _ h => h.elim) (fun v9 ν9 h9 => ?_)
  rw [h9.1, h9.2]
  show zK x g ({ frames := 11, cells := 740, slots := 4779, locals := 220 } : Room) 1 228 1707 147 [some (.ref (za g 0))] [.int 2] (zOf sC2)
  refine k_iconst S dL_charts_147 (v := 2) (by decide) (n := 148) rfl ?_
  refine k_icmp_ne S dL_charts_148 (tgt := 370) (by decide) (n := 151) rfl (fun h9 => absurd (by decide) h9) (fun _ => ?_)
  refine k_aload0 S dL_charts_151 (n := 152) rfl ?_
  refine k_iconst S dL_charts_152 (v := 0) (by decide) (n := 153) rfl ?_
  refine k_callH (As := [.ref (za g 0), .int 0]) (rest := []) S (x_holds (Or.inr rfl) (n_freeze_state vC2 (k := 0) (by decide) (by decide +kernel))) mv_L_holds m_418 dL_charts_153 rfl rfl ⟨by decide, by decide⟩ rfl rfl (Nat.le_of_ble_eq_true rfl) ⟨by decide, by decide⟩ (n := 156) rfl (fun _ _ h => h.elim) (fun v9 ν9 h9 => ?_)
  rw [h9.1, h9.2]
  show zK x g ({ frames := 11, cells := 740, slots := 4779, locals := 220 } : Room) 1 230 1719 156 [some (.ref (za g 0))] [.int ((if "java/lang/IllegalStateException" = "java/lang/IndexOutOfBoundsException" then (-11 : Int32) else (-13)))] (zOf sC2)
  refine k_top (-13) (if_neg (by decide)) ?_
  refine k_bipush S dL_charts_156 (v := (-13)) (by decide) (n := 158) rfl ?_
  refine k_icmp_ne S dL_charts_158 (tgt := 370) (by decide) (n := 161) rfl (fun h9 => absurd (by decide) h9) (fun _ => ?_)
  refine k_aload0 S dL_charts_161 (n := 162) rfl ?_
  refine k_bipush S dL_charts_162 (v := 9) (by decide) (n := 164) rfl ?_
  refine k_bipush S dL_charts_164 (v := 9) (by decide) (n := 166) rfl ?_
  refine k_callS (As := [.ref (za g 0), .int 9, .int 9]) (rest := []) S (qC9 hn) mv_L_two m_624 dL_charts_166 rfl rfl ⟨by decide, by decide⟩ rfl rfl (Nat.le_of_ble_eq_true rfl) ⟨by decide, by decide⟩ (n := 169) rfl (fun _ _ h => h.elim) (fun v9 ν9 h9 => ?_)
  rw [h9.1, h9.2]
  show zK x g ({ frames := 11, cells := 740, slots := 4779, locals := 220 } : Room) 1 232 1731 169 [some (.ref (za g 0))] [.int 1] (zOf sC3)
  exact gC2 S hn hend
set_option maxRecDepth 100000 in
set_option maxHeartbeats 4000000 in
theorem gC0 {x : zX} {g : zG} (S : zS x g 1 cL_charts RL) (hn : zn g = 21) (hend : ∀ (ce sl : Nat) (L : List (Option Value)) (μ : zM), ce ≤ 740 → sl ≤ 4779 → zK x g ({ frames := 11, cells := 740, slots := 4779, locals := 220 } : Room) 1 ce sl 811 L [.int 1] μ) : zK x g ({ frames := 11, cells := 740, slots := 4779, locals := 220 } : Room) 1 21 465 8 [some (.ref (za g 0))] [] (zOf sC0) := by
  refine k_aload0 S dL_charts_8 (n := 9) rfl ?_
  refine k_callV (As := []) (rest := []) (p := 0) S (qC0 hn) mv_X3_subgroups m_331 dL_charts_9 rfl rfl ⟨by decide, by decide⟩ (zlt S (by decide)) (by decide) (ci := 3) rfl rfl rfl (Nat.le_of_ble_eq_true rfl) ⟨by decide, by decide⟩ (n := 12) rfl (fun _ _ h => h.elim) (fun v9 ν9 h9 => ?_)
  rw [h9.1, h9.2]
  show zK x g ({ frames := 11, cells := 740, slots := 4779, locals := 220 } : Room) 1 21 465 12 [some (.ref (za g 0))] [.int 0] (zOf sC0)
  refine k_if_ne S dL_charts_12 (tgt := 370) (by decide) (n := 15) rfl (fun h9 => absurd (by decide) h9) (fun _ => ?_)
  refine k_aload0 S dL_charts_15 (n := 16) rfl ?_
  refine k_callV (As := []) (rest := []) (p := 0) S (qC1 hn) mv_X3_phases m_347 dL_charts_16 rfl rfl ⟨by decide, by decide⟩ (zlt S (by decide)) (by decide) (ci := 3) rfl rfl rfl (Nat.le_of_ble_eq_true rfl) ⟨by decide, by decide⟩ (n := 19) rfl (fun _ _ h => h.elim) (fun v9 ν9 h9 => ?_)
  rw [h9.1, h9.2]
  show zK x g ({ frames := 11, cells := 740, slots := 4779, locals := 220 } : Room) 1 21 465 19 [some (.ref (za g 0))] [.int 1] (zOf sC0)
  refine k_iconst S dL_charts_19 (v := 1) (by decide) (n := 20) rfl ?_
  refine k_icmp_ne S dL_charts_20 (tgt := 370) (by decide) (n := 23) rfl (fun h9 => absurd (by decide) h9) (fun _ => ?_)
  refine k_aload0 S dL_charts_23 (n := 24) rfl ?_
  refine k_iconst S dL_charts_24 (v := 0) (by decide) (n := 25) rfl ?_
  refine k_callV (As := [.int 0]) (rest := []) (p := 0) S (qC2 hn) mv_X3_points m_493 dL_charts_25 rfl rfl ⟨by decide, by decide⟩ (zlt S (by decide)) (by decide) (ci := 3) rfl rfl rfl (Nat.le_of_ble_eq_true rfl) ⟨by decide, by decide⟩ (n := 28) rfl (fun _ _ h => h.elim) (fun v9 ν9 h9 => ?_)
  rw [h9.1, h9.2]
  show zK x g ({ frames := 11, cells := 740, slots := 4779, locals := 220 } : Room) 1 22 471 28 [some (.ref (za g 0))] [.int 0] (zOf sC0)
  refine k_if_ne S dL_charts_28 (tgt := 370) (by decide) (n := 31) rfl (fun h9 => absurd (by decide) h9) (fun _ => ?_)
  refine k_aload0 S dL_charts_31 (n := 32) rfl ?_
  refine k_callV (As := []) (rest := []) (p := 0) S (qC3 hn) mv_X3_alarms m_351 dL_charts_32 rfl rfl ⟨by decide, by decide⟩ (zlt S (by decide)) (by decide) (ci := 3) rfl rfl rfl (Nat.le_of_ble_eq_true rfl) ⟨by decide, by decide⟩ (n := 35) rfl (fun _ _ h => h.elim) (fun v9 ν9 h9 => ?_)
  rw [h9.1, h9.2]
  show zK x g ({ frames := 11, cells := 740, slots := 4779, locals := 220 } : Room) 1 22 471 35 [some (.ref (za g 0))] [.int 0] (zOf sC0)
  refine k_if_ne S dL_charts_35 (tgt := 370) (by decide) (n := 38) rfl (fun h9 => absurd (by decide) h9) (fun _ => ?_)
  refine k_aload0 S dL_charts_38 (n := 39) rfl ?_
  refine k_bipush S dL_charts_39 (v := 7) (by decide) (n := 41) rfl ?_
  refine k_iconst S dL_charts_41 (v := 0) (by decide) (n := 42) rfl ?_
  refine k_iconst S dL_charts_42 (v := 0) (by decide) (n := 43) rfl ?_
  refine k_iconst S dL_charts_43 (v := 0) (by decide) (n := 44) rfl ?_
  refine k_callH (As := [.ref (za g 0), .int 7, .int 0, .int 0, .int 0]) (rest := []) S (x_act7 (Or.inr (Or.inr rfl)) (n_center_state vC0 (k := 0) (by decide) (by unfold zLm; decide +kernel))) mv_L_act m_457 dL_charts_44 rfl rfl ⟨by decide, by decide⟩ rfl rfl (Nat.le_of_ble_eq_true rfl) ⟨by decide, by decide⟩ (n := 47) rfl (fun _ _ h => h.elim) (fun v9 ν9 h9 => ?_)
  rw [h9.1, h9.2]
  show zK x g ({ frames := 11, cells := 740, slots := 4779, locals := 220 } : Room) 1 24 483 47 [some (.ref (za g 0))] [.long ((zcd "java/lang/IllegalStateException"))] (zOf sC0)
  refine k_topl (-99000013) zcd_s ?_
  refine k_ldc2 S dL_charts_47 (v := (-99000013)) m_620 (n := 50) rfl ?_
  refine k_lcmp S dL_charts_50 (n := 51) rfl ?_
  refine k_top 0 (by decide) ?_
  refine k_if_ne S dL_charts_51 (tgt := 370) (by decide) (n := 54) rfl (fun h9 => absurd (by decide) h9) (fun _ => ?_)
  refine k_aload0 S dL_charts_54 (n := 55) rfl ?_
  refine k_bipush S dL_charts_55 (v := 17) (by decide) (n := 57) rfl ?_
  refine k_iconst S dL_charts_57 (v := 0) (by decide) (n := 58) rfl ?_
  refine k_iconst S dL_charts_58 (v := 0) (by decide) (n := 59) rfl ?_
  refine k_iconst S dL_charts_59 (v := 0) (by decide) (n := 60) rfl ?_
  refine k_callH (As := [.ref (za g 0), .int 17, .int 0, .int 0, .int 0]) (rest := []) S (x_act17 (Or.inr (Or.inr rfl)) (n_capability_state vC0 (k := 0) (by decide) (by unfold zLH; decide +kernel) (by unfold zLm; decide +kernel))) mv_L_act m_457 dL_charts_60 rfl rfl ⟨by decide, by decide⟩ rfl rfl (Nat.le_of_ble_eq_true rfl) ⟨by decide, by decide⟩ (n := 63) rfl (fun _ _ h => h.elim) (fun v9 ν9 h9 => ?_)
  rw [h9.1, h9.2]
  show zK x g ({ frames := 11, cells := 740, slots := 4779, locals := 220 } : Room) 1 26 495 63 [some (.ref (za g 0))] [.long ((zcd "java/lang/IllegalStateException"))] (zOf sC0)
  refine k_topl (-99000013) zcd_s ?_
  refine k_ldc2 S dL_charts_63 (v := (-99000013)) m_620 (n := 66) rfl ?_
  refine k_lcmp S dL_charts_66 (n := 67) rfl ?_
  refine k_top 0 (by decide) ?_
  refine k_if_ne S dL_charts_67 (tgt := 370) (by decide) (n := 70) rfl (fun h9 => absurd (by decide) h9) (fun _ => ?_)
  refine k_aload0 S dL_charts_70 (n := 71) rfl ?_
  refine k_iconst S dL_charts_71 (v := 0) (by decide) (n := 72) rfl ?_
  refine k_callH (As := [.ref (za g 0), .int 0]) (rest := []) S (x_holds (Or.inr rfl) (n_freeze_state vC0 (k := 0) (by decide) (by decide +kernel))) mv_L_holds m_418 dL_charts_72 rfl rfl ⟨by decide, by decide⟩ rfl rfl (Nat.le_of_ble_eq_true rfl) ⟨by decide, by decide⟩ (n := 75) rfl (fun _ _ h => h.elim) (fun v9 ν9 h9 => ?_)
  rw [h9.1, h9.2]
  show zK x g ({ frames := 11, cells := 740, slots := 4779, locals := 220 } : Room) 1 28 507 75 [some (.ref (za g 0))] [.int ((if "java/lang/IllegalStateException" = "java/lang/IndexOutOfBoundsException" then (-11 : Int32) else (-13)))] (zOf sC0)
  refine k_top (-13) (if_neg (by decide)) ?_
  refine k_bipush S dL_charts_75 (v := (-13)) (by decide) (n := 77) rfl ?_
  refine k_icmp_ne S dL_charts_77 (tgt := 370) (by decide) (n := 80) rfl (fun h9 => absurd (by decide) h9) (fun _ => ?_)
  refine k_aload0 S dL_charts_80 (n := 81) rfl ?_
  refine k_iconst S dL_charts_81 (v := 0) (by decide) (n := 82) rfl ?_
  refine k_callH (As := [.ref (za g 0), .int 0]) (rest := []) S (x_thaws (Or.inr rfl) (n_thaw_state vC0 (k := 0) (by decide) (by decide +kernel))) mv_L_thaws m_449 dL_charts_82 rfl rfl ⟨by decide, by decide⟩ rfl rfl (Nat.le_of_ble_eq_true rfl) ⟨by decide, by decide⟩ (n := 85) rfl (fun _ _ h => h.elim) (fun v9 ν9 h9 => ?_)
  rw [h9.1, h9.2]
  show zK x g ({ frames := 11, cells := 740, slots := 4779, locals := 220 } : Room) 1 30 519 85 [some (.ref (za g 0))] [.int ((if "java/lang/IllegalStateException" = "java/lang/IndexOutOfBoundsException" then (-11 : Int32) else (-13)))] (zOf sC0)
  refine k_top (-13) (if_neg (by decide)) ?_
  exact gC1 S hn hend

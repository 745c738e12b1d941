/-! RULES: the walk, from its end to its start -/
set_option maxRecDepth 100000 in
set_option maxHeartbeats 4000000 in
theorem gR16 {x : zX} {g : zG} (S : zS x g 3 cL_rules RL) (hn : zn g = 21) (hend : ∀ (ce sl : Nat) (L : List (Option Value)) (μ : zM), ce ≤ 631 → sl ≤ 4125 → zK x g ({ frames := 11, cells := 631, slots := 4125, locals := 220 } : Room) 3 ce sl 937 L [.int 1] μ) : zK x g ({ frames := 11, cells := 631, slots := 4125, locals := 220 } : Room) 3 626 4095 895 [some (.ref (za g 0)), some (.int 60), some (.int 100)] [.int 667] (zOf sR95) := by
  refine k_sipush S dL_rules_895 (v := 667) (by decide) (n := 898) rfl ?_
  refine k_icmp_ne S dL_rules_898 (tgt := 936) (by decide) (n := 901) rfl (fun h9 => absurd (by decide) h9) (fun _ => ?_)
  refine k_aload0 S dL_rules_901 (n := 902) rfl ?_
  refine k_iconst S dL_rules_902 (v := 0) (by decide) (n := 903) rfl ?_
  refine k_callV (As := [.int 0]) (rest := []) (p := 0) S (qR121 hn) mv_X3_width m_510 dL_rules_903 rfl rfl ⟨by decide, by decide⟩ (zlt S (by decide)) (by decide) (ci := 3) rfl rfl rfl (Nat.le_of_ble_eq_true rfl) ⟨by decide, by decide⟩ (n := 906) rfl (fun _ _ h => h.elim) (fun v9 ν9 h9 => ?_)
  rw [h9.1, h9.2]
  show zK x g ({ frames := 11, cells := 631, slots := 4125, locals := 220 } : Room) 3 628 4107 906 [some (.ref (za g 0)), some (.int 60), some (.int 100)] [.int 1023] (zOf sR95)
  refine k_sipush S dL_rules_906 (v := 1023) (by decide) (n := 909) rfl ?_
  refine k_icmp_ne S dL_rules_909 (tgt := 936) (by decide) (n := 912) rfl (fun h9 => absurd (by decide) h9) (fun _ => ?_)
  refine k_aload0 S dL_rules_912 (n := 913) rfl ?_
  refine k_iconst S dL_rules_913 (v := 0) (by decide) (n := 914) rfl ?_
  refine k_callV (As := [.int 0]) (rest := []) (p := 0) S (qR122 hn) mv_X3_rangeLimit m_514 dL_rules_914 rfl rfl ⟨by decide, by decide⟩ (zlt S (by decide)) (by decide) (ci := 3) rfl rfl rfl (Nat.le_of_ble_eq_true rfl) ⟨by decide, by decide⟩ (n := 917) rfl (fun _ _ h => h.elim) (fun v9 ν9 h9 => ?_)
  rw [h9.1, h9.2]
  show zK x g ({ frames := 11, cells := 631, slots := 4125, locals := 220 } : Room) 3 630 4119 917 [some (.ref (za g 0)), some (.int 60), some (.int 100)] [.int 2574] (zOf sR95)
  refine k_sipush S dL_rules_917 (v := 2574) (by decide) (n := 920) rfl ?_
  refine k_icmp_ne S dL_rules_920 (tgt := 936) (by decide) (n := 923) rfl (fun h9 => absurd (by decide) h9) (fun _ => ?_)
  refine k_aload0 S dL_rules_923 (n := 924) rfl ?_
  refine k_iconst S dL_rules_924 (v := 5) (by decide) (n := 925) rfl ?_
  refine k_callV (As := [.int 5]) (rest := []) (p := 0) S (qR123 hn) mv_X3_setWeight m_585 dL_rules_925 rfl rfl ⟨by decide, by decide⟩ (zlt S (by decide)) (by decide) (ci := 3) rfl rfl rfl (Nat.le_of_ble_eq_true rfl) ⟨by decide, by decide⟩ (n := 928) rfl (fun _ _ h => h.elim) (fun v9 ν9 h9 => ?_)
  rw [h9.1, h9.2]
  show zK x g ({ frames := 11, cells := 631, slots := 4125, locals := 220 } : Room) 3 631 4125 928 [some (.ref (za g 0)), some (.int 60), some (.int 100)] [.int 2] (zOf sR96)
  refine k_iconst S dL_rules_928 (v := 2) (by decide) (n := 929) rfl ?_
  refine k_icmp_ne S dL_rules_929 (tgt := 936) (by decide) (n := 932) rfl (fun h9 => absurd (by decide) h9) (fun _ => ?_)
  refine k_iconst S dL_rules_932 (v := 1) (by decide) (n := 933) rfl ?_
  refine k_goto S dL_rules_933 (tgt := 937) (by decide) ?_
  exact hend _ _ _ _ (by decide) (by decide)
set_option maxRecDepth 100000 in
set_option maxHeartbeats 4000000 in
theorem gR15 {x : zX} {g : zG} (S : zS x g 3 cL_rules RL) (hn : zn g = 21) (hend : ∀ (ce sl : Nat) (L : List (Option Value)) (μ : zM), ce ≤ 631 → sl ≤ 4125 → zK x g ({ frames := 11, cells := 631, slots := 4125, locals := 220 } : Room) 3 ce sl 937 L [.int 1] μ) : zK x g ({ frames := 11, cells := 631, slots := 4125, locals := 220 } : Room) 3 429 2913 831 [some (.ref (za g 0)), some (.int 60), some (.int 100)] [.int 24] (zOf sR90) := by
  refine k_bipush S dL_rules_831 (v := 24) (by decide) (n := 833) rfl ?_
  refine k_icmp_ne S dL_rules_833 (tgt := 936) (by decide) (n := 836) rfl (fun h9 => absurd (by decide) h9) (fun _ => ?_)
  refine k_aload0 S dL_rules_836 (n := 837) rfl ?_
  refine k_callS (As := [.ref (za g 0)]) (rest := []) S (qR113 hn) mv_L_refuses m_344 dL_rules_837 rfl rfl ⟨by decide, by decide⟩ rfl rfl (Nat.le_of_ble_eq_true rfl) ⟨by decide, by decide⟩ (n := 840) rfl (fun _ _ h => h.elim) (fun v9 ν9 h9 => ?_)
  rw [h9.1, h9.2]
  show zK x g ({ frames := 11, cells := 631, slots := 4125, locals := 220 } : Room) 3 621 4065 840 [some (.ref (za g 0)), some (.int 60), some (.int 100)] [.int 1] (zOf sR91)
  refine k_if_eq S dL_rules_840 (tgt := 936) (by decide) (n := 843) rfl (fun h9 => absurd h9 (by decide)) (fun _ => ?_)
  refine k_aload0 S dL_rules_843 (n := 844) rfl ?_
  refine k_iconst S dL_rules_844 (v := 3) (by decide) (n := 845) rfl ?_
  refine k_callH (As := [.ref (za g 0), .int 3]) (rest := []) S (y_begin (qR114 hn)) mv_L_begin m_335 dL_rules_845 rfl rfl ⟨by decide, by decide⟩ rfl rfl (Nat.le_of_ble_eq_true rfl) ⟨by decide, by decide⟩ (n := 848) rfl (fun _ _ h => h.elim) (fun v9 ν9 h9 => ?_)
  rw [h9.1, h9.2]
  show zK x g ({ frames := 11, cells := 631, slots := 4125, locals := 220 } : Room) 3 622 4071 848 [some (.ref (za g 0)), some (.int 60), some (.int 100)] [.int 0] (zOf sR92)
  refine k_if_ne S dL_rules_848 (tgt := 936) (by decide) (n := 851) rfl (fun h9 => absurd (by decide) h9) (fun _ => ?_)
  refine k_aload0 S dL_rules_851 (n := 852) rfl ?_
  refine k_callV (As := []) (rest := []) (p := 0) S (qR115 hn) mv_X3_subgroups m_331 dL_rules_852 rfl rfl ⟨by decide, by decide⟩ (zlt S (by decide)) (by decide) (ci := 3) rfl rfl rfl (Nat.le_of_ble_eq_true rfl) ⟨by decide, by decide⟩ (n := 855) rfl (fun _ _ h => h.elim) (fun v9 ν9 h9 => ?_)
  rw [h9.1, h9.2]
  show zK x g ({ frames := 11, cells := 631, slots := 4125, locals := 220 } : Room) 3 622 4071 855 [some (.ref (za g 0)), some (.int 60), some (.int 100)] [.int 0] (zOf sR92)
  refine k_if_ne S dL_rules_855 (tgt := 936) (by decide) (n := 858) rfl (fun h9 => absurd (by decide) h9) (fun _ => ?_)
  refine k_aload0 S dL_rules_858 (n := 859) rfl ?_
  refine k_callV (As := []) (rest := []) (p := 0) S (qR116 hn) mv_X3_phases m_347 dL_rules_859 rfl rfl ⟨by decide, by decide⟩ (zlt S (by decide)) (by decide) (ci := 3) rfl rfl rfl (Nat.le_of_ble_eq_true rfl) ⟨by decide, by decide⟩ (n := 862) rfl (fun _ _ h => h.elim) (fun v9 ν9 h9 => ?_)
  rw [h9.1, h9.2]
  show zK x g ({ frames := 11, cells := 631, slots := 4125, locals := 220 } : Room) 3 622 4071 862 [some (.ref (za g 0)), some (.int 60), some (.int 100)] [.int 1] (zOf sR92)
  refine k_iconst S dL_rules_862 (v := 1) (by decide) (n := 863) rfl ?_
  refine k_icmp_ne S dL_rules_863 (tgt := 936) (by decide) (n := 866) rfl (fun h9 => absurd (by decide) h9) (fun _ => ?_)
  refine k_aload0 S dL_rules_866 (n := 867) rfl ?_
  refine k_iconst S dL_rules_867 (v := 1) (by decide) (n := 868) rfl ?_
  refine k_callV (As := [.int 1]) (rest := []) (p := 0) S (qR117 hn) mv_X3_put m_194 dL_rules_868 rfl rfl ⟨by decide, by decide⟩ (zlt S (by decide)) (by decide) (ci := 3) rfl rfl rfl (Nat.le_of_ble_eq_true rfl) ⟨by decide, by decide⟩ (n := 871) rfl (fun _ _ h => h.elim) (fun v9 ν9 h9 => ?_)
  rw [h9.1, h9.2]
  show zK x g ({ frames := 11, cells := 631, slots := 4125, locals := 220 } : Room) 3 623 4077 871 [some (.ref (za g 0)), some (.int 60), some (.int 100)] [.int 0] (zOf sR93)
  refine k_if_ne S dL_rules_871 (tgt := 936) (by decide) (n := 874) rfl (fun h9 => absurd (by decide) h9) (fun _ => ?_)
  refine k_aload0 S dL_rules_874 (n := 875) rfl ?_
  refine k_iconst S dL_rules_875 (v := 1) (by decide) (n := 876) rfl ?_
  refine k_callV (As := [.int 1]) (rest := []) (p := 0) S (qR118 hn) mv_X3_put m_194 dL_rules_876 rfl rfl ⟨by decide, by decide⟩ (zlt S (by decide)) (by decide) (ci := 3) rfl rfl rfl (Nat.le_of_ble_eq_true rfl) ⟨by decide, by decide⟩ (n := 879) rfl (fun _ _ h => h.elim) (fun v9 ν9 h9 => ?_)
  rw [h9.1, h9.2]
  show zK x g ({ frames := 11, cells := 631, slots := 4125, locals := 220 } : Room) 3 624 4083 879 [some (.ref (za g 0)), some (.int 60), some (.int 100)] [.int 0] (zOf sR94)
  refine k_if_ne S dL_rules_879 (tgt := 936) (by decide) (n := 882) rfl (fun h9 => absurd (by decide) h9) (fun _ => ?_)
  refine k_aload0 S dL_rules_882 (n := 883) rfl ?_
  refine k_iconst S dL_rules_883 (v := 0) (by decide) (n := 884) rfl ?_
  refine k_callV (As := [.int 0]) (rest := []) (p := 0) S (qR119 hn) mv_X3_put m_194 dL_rules_884 rfl rfl ⟨by decide, by decide⟩ (zlt S (by decide)) (by decide) (ci := 3) rfl rfl rfl (Nat.le_of_ble_eq_true rfl) ⟨by decide, by decide⟩ (n := 887) rfl (fun _ _ h => h.elim) (fun v9 ν9 h9 => ?_)
  rw [h9.1, h9.2]
  show zK x g ({ frames := 11, cells := 631, slots := 4125, locals := 220 } : Room) 3 625 4089 887 [some (.ref (za g 0)), some (.int 60), some (.int 100)] [.int 1] (zOf sR95)
  refine k_if_eq S dL_rules_887 (tgt := 936) (by decide) (n := 890) rfl (fun h9 => absurd h9 (by decide)) (fun _ => ?_)
  refine k_aload0 S dL_rules_890 (n := 891) rfl ?_
  refine k_iconst S dL_rules_891 (v := 0) (by decide) (n := 892) rfl ?_
  refine k_callV (As := [.int 0]) (rest := []) (p := 0) S (qR120 hn) mv_X3_mean m_481 dL_rules_892 rfl rfl ⟨by decide, by decide⟩ (zlt S (by decide)) (by decide) (ci := 3) rfl rfl rfl (Nat.le_of_ble_eq_true rfl) ⟨by decide, by decide⟩ (n := 895) rfl (fun _ _ h => h.elim) (fun v9 ν9 h9 => ?_)
  rw [h9.1, h9.2]
  show zK x g ({ frames := 11, cells := 631, slots := 4125, locals := 220 } : Room) 3 626 4095 895 [some (.ref (za g 0)), some (.int 60), some (.int 100)] [.int 667] (zOf sR95)
  exact gR16 S hn hend
set_option maxRecDepth 100000 in
set_option maxHeartbeats 4000000 in
theorem gR14 {x : zX} {g : zG} (S : zS x g 3 cL_rules RL) (hn : zn g = 21) (hend : ∀ (ce sl : Nat) (L : List (Option Value)) (μ : zM), ce ≤ 631 → sl ≤ 4125 → zK x g ({ frames := 11, cells := 631, slots := 4125, locals := 220 } : Room) 3 ce sl 937 L [.int 1] μ) : zK x g ({ frames := 11, cells := 631, slots := 4125, locals := 220 } : Room) 3 415 2829 765 [some (.ref (za g 0)), some (.int 55), some (.int 100)] [.int 1] (zOf sR86) := by
  refine k_if_ne S dL_rules_765 (tgt := 770) (by decide) (n := 768) rfl (fun _ => ?_) (fun h9 => absurd h9 (by decide))
  refine k_iinc1 S dL_rules_770 (v := 56) (by decide) (by decide) (n := 773) rfl ?_
  refine k_goto S dL_rules_773 (tgt := 753) (by decide) ?_
  refine k_iload1 S dL_rules_753 (n := 754) rfl ?_
  refine k_bipush S dL_rules_754 (v := 60) (by decide) (n := 756) rfl ?_
  refine k_icmp_ge S dL_rules_756 (tgt := 776) (by decide) (n := 759) rfl (fun h9 => absurd h9 (by decide)) (fun _ => ?_)
  refine k_aload0 S dL_rules_759 (n := 760) rfl ?_
  refine k_iconst S dL_rules_760 (v := 0) (by decide) (n := 761) rfl ?_
  refine k_iconst S dL_rules_761 (v := 0) (by decide) (n := 762) rfl ?_
  refine k_callS (As := [.ref (za g 0), .int 0, .int 0]) (rest := []) S (qR108 hn) mv_L_two m_624 dL_rules_762 rfl rfl ⟨by decide, by decide⟩ rfl rfl (Nat.le_of_ble_eq_true rfl) ⟨by decide, by decide⟩ (n := 765) rfl (fun _ _ h => h.elim) (fun v9 ν9 h9 => ?_)
  rw [h9.1, h9.2]
  show zK x g ({ frames := 11, cells := 631, slots := 4125, locals := 220 } : Room) 3 417 2841 765 [some (.ref (za g 0)), some (.int 56), some (.int 100)] [.int 1] (zOf sR87)
  refine k_if_ne S dL_rules_765 (tgt := 770) (by decide) (n := 768) rfl (fun _ => ?_) (fun h9 => absurd h9 (by decide))
  refine k_iinc1 S dL_rules_770 (v := 57) (by decide) (by decide) (n := 773) rfl ?_
  refine k_goto S dL_rules_773 (tgt := 753) (by decide) ?_
  refine k_iload1 S dL_rules_753 (n := 754) rfl ?_
  refine k_bipush S dL_rules_754 (v := 60) (by decide) (n := 756) rfl ?_
  refine k_icmp_ge S dL_rules_756 (tgt := 776) (by decide) (n := 759) rfl (fun h9 => absurd h9 (by decide)) (fun _ => ?_)
  refine k_aload0 S dL_rules_759 (n := 760) rfl ?_
  refine k_iconst S dL_rules_760 (v := 0) (by decide) (n := 761) rfl ?_
  refine k_iconst S dL_rules_761 (v := 0) (by decide) (n := 762) rfl ?_
  refine k_callS (As := [.ref (za g 0), .int 0, .int 0]) (rest := []) S (qR109 hn) mv_L_two m_624 dL_rules_762 rfl rfl ⟨by decide, by decide⟩ rfl rfl (Nat.le_of_ble_eq_true rfl) ⟨by decide, by decide⟩ (n := 765) rfl (fun _ _ h => h.elim) (fun v9 ν9 h9 => ?_)
  rw [h9.1, h9.2]
  show zK x g ({ frames := 11, cells := 631, slots := 4125, locals := 220 } : Room) 3 419 2853 765 [some (.ref (za g 0)), some (.int 57), some (.int 100)] [.int 1] (zOf sR88)
  refine k_if_ne S dL_rules_765 (tgt := 770) (by decide) (n := 768) rfl (fun _ => ?_) (fun h9 => absurd h9 (by decide))
  refine k_iinc1 S dL_rules_770 (v := 58) (by decide) (by decide) (n := 773) rfl ?_
  refine k_goto S dL_rules_773 (tgt := 753) (by decide) ?_
  refine k_iload1 S dL_rules_753 (n := 754) rfl ?_
  refine k_bipush S dL_rules_754 (v := 60) (by decide) (n := 756) rfl ?_
  refine k_icmp_ge S dL_rules_756 (tgt := 776) (by decide) (n := 759) rfl (fun h9 => absurd h9 (by decide)) (fun _ => ?_)
  refine k_aload0 S dL_rules_759 (n := 760) rfl ?_
  refine k_iconst S dL_rules_760 (v := 0) (by decide) (n := 761) rfl ?_
  refine k_iconst S dL_rules_761 (v := 0) (by decide) (n := 762) rfl ?_
  refine k_callS (As := [.ref (za g 0), .int 0, .int 0]) (rest := []) S (qR110 hn) mv_L_two m_624 dL_rules_762 rfl rfl ⟨by decide, by decide⟩ rfl rfl (Nat.le_of_ble_eq_true rfl) ⟨by decide, by decide⟩ (n := 765) rfl (fun _ _ h => h.elim) (fun v9 ν9 h9 => ?_)
  rw [h9.1, h9.2]
  show zK x g ({ frames := 11, cells := 631, slots := 4125, locals := 220 } : Room) 3 421 2865 765 [some (.ref (za g 0)), some (.int 58), some (.int 100)] [.int 1] (zOf sR89)
  refine k_if_ne S dL_rules_765 (tgt := 770) (by decide) (n := 768) rfl (fun _ => ?_) (fun h9 => absurd h9 (by decide))
  refine k_iinc1 S dL_rules_770 (v := 59) (by decide) (by decide) (n := 773) rfl ?_
  refine k_goto S dL_rules_773 (tgt := 753) (by decide) ?_
  refine k_iload1 S dL_rules_753 (n := 754) rfl ?_
  refine k_bipush S dL_rules_754 (v := 60) (by decide) (n := 756) rfl ?_
  refine k_icmp_ge S dL_rules_756 (tgt := 776) (by decide) (n := 759) rfl (fun h9 => absurd h9 (by decide)) (fun _ => ?_)
  refine k_aload0 S dL_rules_759 (n := 760) rfl ?_
  refine k_iconst S dL_rules_760 (v := 0) (by decide) (n := 761) rfl ?_
  refine k_iconst S dL_rules_761 (v := 0) (by decide) (n := 762) rfl ?_
  refine k_callS (As := [.ref (za g 0), .int 0, .int 0]) (rest := []) S (qR111 hn) mv_L_two m_624 dL_rules_762 rfl rfl ⟨by decide, by decide⟩ rfl rfl (Nat.le_of_ble_eq_true rfl) ⟨by decide, by decide⟩ (n := 765) rfl (fun _ _ h => h.elim) (fun v9 ν9 h9 => ?_)
  rw [h9.1, h9.2]
  show zK x g ({ frames := 11, cells := 631, slots := 4125, locals := 220 } : Room) 3 423 2877 765 [some (.ref (za g 0)), some (.int 59), some (.int 100)] [.int 1] (zOf sR90)
  refine k_if_ne S dL_rules_765 (tgt := 770) (by decide) (n := 768) rfl (fun _ => ?_) (fun h9 => absurd h9 (by decide))
  refine k_iinc1 S dL_rules_770 (v := 60) (by decide) (by decide) (n := 773) rfl ?_
  refine k_goto S dL_rules_773 (tgt := 753) (by decide) ?_
  refine k_iload1 S dL_rules_753 (n := 754) rfl ?_
  refine k_bipush S dL_rules_754 (v := 60) (by decide) (n := 756) rfl ?_
  refine k_icmp_ge S dL_rules_756 (tgt := 776) (by decide) (n := 759) rfl (fun _ => ?_) (fun h9 => absurd (by decide) h9)
  refine k_aload0 S dL_rules_776 (n := 777) rfl ?_
  refine k_iconst S dL_rules_777 (v := 0) (by decide) (n := 778) rfl ?_
  refine k_iconst S dL_rules_778 (v := 5) (by decide) (n := 779) rfl ?_
  refine k_iconst S dL_rules_779 (v := 0) (by decide) (n := 780) rfl ?_
  refine k_iconst S dL_rules_780 (v := 0) (by decide) (n := 781) rfl ?_
  refine k_callH (As := [.ref (za g 0), .int 0, .int 5, .int 0, .int 0]) (rest := []) S (x_act0 (Or.inr (Or.inr rfl)) (n_put_full vR90 (by decide) (by decide))) mv_L_act m_457 dL_rules_781 rfl rfl ⟨by decide, by decide⟩ rfl rfl (Nat.le_of_ble_eq_true rfl) ⟨by decide, by decide⟩ (n := 784) rfl (fun _ _ h => h.elim) (fun v9 ν9 h9 => ?_)
  rw [h9.1, h9.2]
  show zK x g ({ frames := 11, cells := 631, slots := 4125, locals := 220 } : Room) 3 424 2883 784 [some (.ref (za g 0)), some (.int 60), some (.int 100)] [.long ((zcd "java/lang/IllegalStateException"))] (zOf sR90)
  refine k_topl (-99000013) zcd_s ?_
  refine k_ldc2 S dL_rules_784 (v := (-99000013)) m_620 (n := 787) rfl ?_
  refine k_lcmp S dL_rules_787 (n := 788) rfl ?_
  refine k_top 0 (by decide) ?_
  refine k_if_ne S dL_rules_788 (tgt := 936) (by decide) (n := 791) rfl (fun h9 => absurd (by decide) h9) (fun _ => ?_)
  refine k_aload0 S dL_rules_791 (n := 792) rfl ?_
  refine k_bipush S dL_rules_792 (v := 17) (by decide) (n := 794) rfl ?_
  refine k_bipush S dL_rules_794 (v := 9) (by decide) (n := 796) rfl ?_
  refine k_iconst S dL_rules_796 (v := 0) (by decide) (n := 797) rfl ?_
  refine k_iconst S dL_rules_797 (v := 1) (by decide) (n := 798) rfl ?_
  refine k_callH (As := [.ref (za g 0), .int 17, .int 9, .int 0, .int 1]) (rest := []) S (x_act17 (Or.inr (Or.inr rfl)) (n_capability_state vR90 (k := 9) (by decide) (by unfold zLH; decide +kernel) (by unfold zLm; decide +kernel))) mv_L_act m_457 dL_rules_798 rfl rfl ⟨by decide, by decide⟩ rfl rfl (Nat.le_of_ble_eq_true rfl) ⟨by decide, by decide⟩ (n := 801) rfl (fun _ _ h => h.elim) (fun v9 ν9 h9 => ?_)
  rw [h9.1, h9.2]
  show zK x g ({ frames := 11, cells := 631, slots := 4125, locals := 220 } : Room) 3 426 2895 801 [some (.ref (za g 0)), some (.int 60), some (.int 100)] [.long ((zcd "java/lang/IllegalStateException"))] (zOf sR90)
  refine k_topl (-99000013) zcd_s ?_
  refine k_ldc2 S dL_rules_801 (v := (-99000013)) m_620 (n := 804) rfl ?_
  refine k_lcmp S dL_rules_804 (n := 805) rfl ?_
  refine k_top 0 (by decide) ?_
  refine k_if_ne S dL_rules_805 (tgt := 936) (by decide) (n := 808) rfl (fun h9 => absurd (by decide) h9) (fun _ => ?_)
  refine k_aload0 S dL_rules_808 (n := 809) rfl ?_
  refine k_bipush S dL_rules_809 (v := 18) (by decide) (n := 811) rfl ?_
  refine k_bipush S dL_rules_811 (v := 9) (by decide) (n := 813) rfl ?_
  refine k_iconst S dL_rules_813 (v := 0) (by decide) (n := 814) rfl ?_
  refine k_iconst S dL_rules_814 (v := 1) (by decide) (n := 815) rfl ?_
  refine k_callH (As := [.ref (za g 0), .int 18, .int 9, .int 0, .int 1]) (rest := []) S (x_act18 (Or.inr (Or.inr rfl)) (n_capability_state vR90 (k := 9) (by decide) (by unfold zLH; decide +kernel) (by unfold zLm; decide +kernel))) mv_L_act m_457 dL_rules_815 rfl rfl ⟨by decide, by decide⟩ rfl rfl (Nat.le_of_ble_eq_true rfl) ⟨by decide, by decide⟩ (n := 818) rfl (fun _ _ h => h.elim) (fun v9 ν9 h9 => ?_)
  rw [h9.1, h9.2]
  show zK x g ({ frames := 11, cells := 631, slots := 4125, locals := 220 } : Room) 3 428 2907 818 [some (.ref (za g 0)), some (.int 60), some (.int 100)] [.long ((zcd "java/lang/IllegalStateException"))] (zOf sR90)
  refine k_topl (-99000013) zcd_s ?_
  refine k_ldc2 S dL_rules_818 (v := (-99000013)) m_620 (n := 821) rfl ?_
  refine k_lcmp S dL_rules_821 (n := 822) rfl ?_
  refine k_top 0 (by decide) ?_
  refine k_if_ne S dL_rules_822 (tgt := 936) (by decide) (n := 825) rfl (fun h9 => absurd (by decide) h9) (fun _ => ?_)
  refine k_aload0 S dL_rules_825 (n := 826) rfl ?_
  refine k_bipush S dL_rules_826 (v := 9) (by decide) (n := 828) rfl ?_
  refine k_callV (As := [.int 9]) (rest := []) (p := 0) S (qR112 hn) mv_X3_points m_493 dL_rules_828 rfl rfl ⟨by decide, by decide⟩ (zlt S (by decide)) (by decide) (ci := 3) rfl rfl rfl (Nat.le_of_ble_eq_true rfl) ⟨by decide, by decide⟩ (n := 831) rfl (fun _ _ h => h.elim) (fun v9 ν9 h9 => ?_)
  rw [h9.1, h9.2]
  show zK x g ({ frames := 11, cells := 631, slots := 4125, locals := 220 } : Room) 3 429 2913 831 [some (.ref (za g 0)), some (.int 60), some (.int 100)] [.int 24] (zOf sR90)
  exact gR15 S hn hend
set_option maxRecDepth 100000 in
set_option maxHeartbeats 4000000 in
theorem gR13 {x : zX} {g : zG} (S : zS x g 3 cL_rules RL) (hn : zn g = 21) (hend : ∀ (ce sl : Nat) (L : List (Option Value)) (μ : zM), ce ≤ 631 → sl ≤ 4125 → zK x g ({ frames := 11, cells := 631, slots := 4125, locals := 220 } : Room) 3 ce sl 937 L [.int 1] μ) : zK x g ({ frames := 11, cells := 631, slots := 4125, locals := 220 } : Room) 3 399 2733 765 [some (.ref (za g 0)), some (.int 47), some (.int 100)] [.int 1] (zOf sR78) := by
  refine k_if_ne S dL_rules_765 (tgt := 770) (by decide) (n := 768) rfl (fun _ => ?_) (fun h9 => absurd h9 (by decide))
  refine k_iinc1 S dL_rules_770 (v := 48) (by decide) (by decide) (n := 773) rfl ?_
  refine k_goto S dL_rules_773 (tgt := 753) (by decide) ?_
  refine k_iload1 S dL_rules_753 (n := 754) rfl ?_
  refine k_bipush S dL_rules_754 (v := 60) (by decide) (n := 756) rfl ?_
  refine k_icmp_ge S dL_rules_756 (tgt := 776) (by decide) (n := 759) rfl (fun h9 => absurd h9 (by decide)) (fun _ => ?_)
  refine k_aload0 S dL_rules_759 (n := 760) rfl ?_
  refine k_iconst S dL_rules_760 (v := 0) (by decide) (n := 761) rfl ?_
  refine k_iconst S dL_rules_761 (v := 0) (by decide) (n := 762) rfl ?_
  refine k_callS (As := [.ref (za g 0), .int 0, .int 0]) (rest := []) S (qR100 hn) mv_L_two m_624 dL_rules_762 rfl rfl ⟨by decide, by decide⟩ rfl rfl (Nat.le_of_ble_eq_true rfl) ⟨by decide, by decide⟩ (n := 765) rfl (fun _ _ h => h.elim) (fun v9 ν9 h9 => ?_)
  rw [h9.1, h9.2]
  show zK x g ({ frames := 11, cells := 631, slots := 4125, locals := 220 } : Room) 3 401 2745 765 [some (.ref (za g 0)), some (.int 48), some (.int 100)] [.int 1] (zOf sR79)
  refine k_if_ne S dL_rules_765 (tgt := 770) (by decide) (n := 768) rfl (fun _ => ?_) (fun h9 => absurd h9 (by decide))
  refine k_iinc1 S dL_rules_770 (v := 49) (by decide) (by decide) (n := 773) rfl ?_
  refine k_goto S dL_rules_773 (tgt := 753) (by decide) ?_
  refine k_iload1 S dL_rules_753 (n := 754) rfl ?_
  refine k_bipush S dL_rules_754 (v := 60) (by decide) (n := 756) rfl ?_
  refine k_icmp_ge S dL_rules_756 (tgt := 776) (by decide) (n := 759) rfl (fun h9 => absurd h9 (by decide)) (fun _ => ?_)
  refine k_aload0 S dL_rules_759 (n := 760) rfl ?_
  refine k_iconst S dL_rules_760 (v := 0) (by decide) (n := 761) rfl ?_
  refine k_iconst S dL_rules_761 (v := 0) (by decide) (n := 762) rfl ?_
  refine k_callS (As := [.ref (za g 0), .int 0, .int 0]) (rest := []) S (qR101 hn) mv_L_two m_624 dL_rules_762 rfl rfl ⟨by decide, by decide⟩ rfl rfl (Nat.le_of_ble_eq_true rfl) ⟨by decide, by decide⟩ (n := 765) rfl (fun _ _ h => h.elim) (fun v9 ν9 h9 => ?_)
  rw [h9.1, h9.2]
  show zK x g ({ frames := 11, cells := 631, slots := 4125, locals := 220 } : Room) 3 403 2757 765 [some (.ref (za g 0)), some (.int 49), some (.int 100)] [.int 1] (zOf sR80)
  refine k_if_ne S dL_rules_765 (tgt := 770) (by decide) (n := 768) rfl (fun _ => ?_) (fun h9 => absurd h9 (by decide))
  refine k_iinc1 S dL_rules_770 (v := 50) (by decide) (by decide) (n := 773) rfl ?_
  refine k_goto S dL_rules_773 (tgt := 753) (by decide) ?_
  refine k_iload1 S dL_rules_753 (n := 754) rfl ?_
  refine k_bipush S dL_rules_754 (v := 60) (by decide) (n := 756) rfl ?_
  refine k_icmp_ge S dL_rules_756 (tgt := 776) (by decide) (n := 759) rfl (fun h9 => absurd h9 (by decide)) (fun _ => ?_)
  refine k_aload0 S dL_rules_759 (n := 760) rfl ?_
  refine k_iconst S dL_rules_760 (v := 0) (by decide) (n := 761) rfl ?_
  refine k_iconst S dL_rules_761 (v := 0) (by decide) (n := 762) rfl ?_
  refine k_callS (As := [.ref (za g 0), .int 0, .int 0]) (rest := []) S (qR102 hn) mv_L_two m_624 dL_rules_762 rfl rfl ⟨by decide, by decide⟩ rfl rfl (Nat.le_of_ble_eq_true rfl) ⟨by decide, by decide⟩ (n := 765) rfl (fun _ _ h => h.elim) (fun v9 ν9 h9 => ?_)
  rw [h9.1, h9.2]
  show zK x g ({ frames := 11, cells := 631, slots := 4125, locals := 220 } : Room) 3 405 2769 765 [some (.ref (za g 0)), some (.int 50), some (.int 100)] [.int 1] (zOf sR81)
  refine k_if_ne S dL_rules_765 (tgt := 770) (by decide) (n := 768) rfl (fun _ => ?_) (fun h9 => absurd h9 (by decide))
  refine k_iinc1 S dL_rules_770 (v := 51) (by decide) (by decide) (n := 773) rfl ?_
  refine k_goto S dL_rules_773 (tgt := 753) (by decide) ?_
  refine k_iload1 S dL_rules_753 (n := 754) rfl ?_
  refine k_bipush S dL_rules_754 (v := 60) (by decide) (n := 756) rfl ?_
  refine k_icmp_ge S dL_rules_756 (tgt := 776) (by decide) (n := 759) rfl (fun h9 => absurd h9 (by decide)) (fun _ => ?_)
  refine k_aload0 S dL_rules_759 (n := 760) rfl ?_
  refine k_iconst S dL_rules_760 (v := 0) (by decide) (n := 761) rfl ?_
  refine k_iconst S dL_rules_761 (v := 0) (by decide) (n := 762) rfl ?_
  refine k_callS (As := [.ref (za g 0), .int 0, .int 0]) (rest := []) S (qR103 hn) mv_L_two m_624 dL_rules_762 rfl rfl ⟨by decide, by decide⟩ rfl rfl (Nat.le_of_ble_eq_true rfl) ⟨by decide, by decide⟩ (n := 765) rfl (fun _ _ h => h.elim) (fun v9 ν9 h9 => ?_)
  rw [h9.1, h9.2]
  show zK x g ({ frames := 11, cells := 631, slots := 4125, locals := 220 } : Room) 3 407 2781 765 [some (.ref (za g 0)), some (.int 51), some (.int 100)] [.int 1] (zOf sR82)
  refine k_if_ne S dL_rules_765 (tgt := 770) (by decide) (n := 768) rfl (fun _ => ?_) (fun h9 => absurd h9 (by decide))
  refine k_iinc1 S dL_rules_770 (v := 52) (by decide) (by decide) (n := 773) rfl ?_
  refine k_goto S dL_rules_773 (tgt := 753) (by decide) ?_
  refine k_iload1 S dL_rules_753 (n := 754) rfl ?_
  refine k_bipush S dL_rules_754 (v := 60) (by decide) (n := 756) rfl ?_
  refine k_icmp_ge S dL_rules_756 (tgt := 776) (by decide) (n := 759) rfl (fun h9 => absurd h9 (by decide)) (fun _ => ?_)
  refine k_aload0 S dL_rules_759 (n := 760) rfl ?_
  refine k_iconst S dL_rules_760 (v := 0) (by decide) (n := 761) rfl ?_
  refine k_iconst S dL_rules_761 (v := 0) (by decide) (n := 762) rfl ?_
  refine k_callS (As := [.ref (za g 0), .int 0, .int 0]) (rest := []) S (qR104 hn) mv_L_two m_624 dL_rules_762 rfl rfl ⟨by decide, by decide⟩ rfl rfl (Nat.le_of_ble_eq_true rfl) ⟨by decide, by decide⟩ (n := 765) rfl (fun _ _ h => h.elim) (fun v9 ν9 h9 => ?_)
  rw [h9.1, h9.2]
  show zK x g ({ frames := 11, cells := 631, slots := 4125, locals := 220 } : Room) 3 409 2793 765 [some (.ref (za g 0)), some (.int 52), some (.int 100)] [.int 1] (zOf sR83)
  refine k_if_ne S dL_rules_765 (tgt := 770) (by decide) (n := 768) rfl (fun _ => ?_) (fun h9 => absurd h9 (by decide))
  refine k_iinc1 S dL_rules_770 (v := 53) (by decide) (by decide) (n := 773) rfl ?_
  refine k_goto S dL_rules_773 (tgt := 753) (by decide) ?_
  refine k_iload1 S dL_rules_753 (n := 754) rfl ?_
  refine k_bipush S dL_rules_754 (v := 60) (by decide) (n := 756) rfl ?_
  refine k_icmp_ge S dL_rules_756 (tgt := 776) (by decide) (n := 759) rfl (fun h9 => absurd h9 (by decide)) (fun _ => ?_)
  refine k_aload0 S dL_rules_759 (n := 760) rfl ?_
  refine k_iconst S dL_rules_760 (v := 0) (by decide) (n := 761) rfl ?_
  refine k_iconst S dL_rules_761 (v := 0) (by decide) (n := 762) rfl ?_
  refine k_callS (As := [.ref (za g 0), .int 0, .int 0]) (rest := []) S (qR105 hn) mv_L_two m_624 dL_rules_762 rfl rfl ⟨by decide, by decide⟩ rfl rfl (Nat.le_of_ble_eq_true rfl) ⟨by decide, by decide⟩ (n := 765) rfl (fun _ _ h => h.elim) (fun v9 ν9 h9 => ?_)
  rw [h9.1, h9.2]
  show zK x g ({ frames := 11, cells := 631, slots := 4125, locals := 220 } : Room) 3 411 2805 765 [some (.ref (za g 0)), some (.int 53), some (.int 100)] [.int 1] (zOf sR84)
  refine k_if_ne S dL_rules_765 (tgt := 770) (by decide) (n := 768) rfl (fun _ => ?_) (fun h9 => absurd h9 (by decide))
  refine k_iinc1 S dL_rules_770 (v := 54) (by decide) (by decide) (n := 773) rfl ?_
  refine k_goto S dL_rules_773 (tgt := 753) (by decide) ?_
  refine k_iload1 S dL_rules_753 (n := 754) rfl ?_
  refine k_bipush S dL_rules_754 (v := 60) (by decide) (n := 756) rfl ?_
  refine k_icmp_ge S dL_rules_756 (tgt := 776) (by decide) (n := 759) rfl (fun h9 => absurd h9 (by decide)) (fun _ => ?_)
  refine k_aload0 S dL_rules_759 (n := 760) rfl ?_
  refine k_iconst S dL_rules_760 (v := 0) (by decide) (n := 761) rfl ?_
  refine k_iconst S dL_rules_761 (v := 0) (by decide) (n := 762) rfl ?_
  refine k_callS (As := [.ref (za g 0), .int 0, .int 0]) (rest := []) S (qR106 hn) mv_L_two m_624 dL_rules_762 rfl rfl ⟨by decide, by decide⟩ rfl rfl (Nat.le_of_ble_eq_true rfl) ⟨by decide, by decide⟩ (n := 765) rfl (fun _ _ h => h.elim) (fun v9 ν9 h9 => ?_)
  rw [h9.1, h9.2]
  show zK x g ({ frames := 11, cells := 631, slots := 4125, locals := 220 } : Room) 3 413 2817 765 [some (.ref (za g 0)), some (.int 54), some (.int 100)] [.int 1] (zOf sR85)
  refine k_if_ne S dL_rules_765 (tgt := 770) (by decide) (n := 768) rfl (fun _ => ?_) (fun h9 => absurd h9 (by decide))
  refine k_iinc1 S dL_rules_770 (v := 55) (by decide) (by decide) (n := 773) rfl ?_
  refine k_goto S dL_rules_773 (tgt := 753) (by decide) ?_
  refine k_iload1 S dL_rules_753 (n := 754) rfl ?_
  refine k_bipush S dL_rules_754 (v := 60) (by decide) (n := 756) rfl ?_
  refine k_icmp_ge S dL_rules_756 (tgt := 776) (by decide) (n := 759) rfl (fun h9 => absurd h9 (by decide)) (fun _ => ?_)
  refine k_aload0 S dL_rules_759 (n := 760) rfl ?_
  refine k_iconst S dL_rules_760 (v := 0) (by decide) (n := 761) rfl ?_
  refine k_iconst S dL_rules_761 (v := 0) (by decide) (n := 762) rfl ?_
  refine k_callS (As := [.ref (za g 0), .int 0, .int 0]) (rest := []) S (qR107 hn) mv_L_two m_624 dL_rules_762 rfl rfl ⟨by decide, by decide⟩ rfl rfl (Nat.le_of_ble_eq_true rfl) ⟨by decide, by decide⟩ (n := 765) rfl (fun _ _ h => h.elim) (fun v9 ν9 h9 => ?_)
  rw [h9.1, h9.2]
  show zK x g ({ frames := 11, cells := 631, slots := 4125, locals := 220 } : Room) 3 415 2829 765 [some (.ref (za g 0)), some (.int 55), some (.int 100)] [.int 1] (zOf sR86)
  exact gR14 S hn hend
set_option maxRecDepth 100000 in
set_option maxHeartbeats 4000000 in
theorem gR12 {x : zX} {g : zG} (S : zS x g 3 cL_rules RL) (hn : zn g = 21) (hend : ∀ (ce sl : Nat) (L : List (Option Value)) (μ : zM), ce ≤ 631 → sl ≤ 4125 → zK x g ({ frames := 11, cells := 631, slots := 4125, locals := 220 } : Room) 3 ce sl 937 L [.int 1] μ) : zK x g ({ frames := 11, cells := 631, slots := 4125, locals := 220 } : Room) 3 383 2637 765 [some (.ref (za g 0)), some (.int 39), some (.int 100)] [.int 1] (zOf sR70) := by
  refine k_if_ne S dL_rules_765 (tgt := 770) (by decide) (n := 768) rfl (fun _ => ?_) (fun h9 => absurd h9 (by decide))
  refine k_iinc1 S dL_rules_770 (v := 40) (by decide) (by decide) (n := 773) rfl ?_
  refine k_goto S dL_rules_773 (tgt := 753) (by decide) ?_
  refine k_iload1 S dL_rules_753 (n := 754) rfl ?_
  refine k_bipush S dL_rules_754 (v := 60) (by decide) (n := 756) rfl ?_
  refine k_icmp_ge S dL_rules_756 (tgt := 776) (by decide) (n := 759) rfl (fun h9 => absurd h9 (by decide)) (fun _ => ?_)
  refine k_aload0 S dL_rules_759 (n := 760) rfl ?_
  refine k_iconst S dL_rules_760 (v := 0) (by decide) (n := 761) rfl ?_
  refine k_iconst S dL_rules_761 (v := 0) (by decide) (n := 762) rfl ?_
  refine k_callS (As := [.ref (za g 0), .int 0, .int 0]) (rest := []) S (qR92 hn) mv_L_two m_624 dL_rules_762 rfl rfl ⟨by decide, by decide⟩ rfl rfl (Nat.le_of_ble_eq_true rfl) ⟨by decide, by decide⟩ (n := 765) rfl (fun _ _ h => h.elim) (fun v9 ν9 h9 => ?_)
  rw [h9.1, h9.2]
  show zK x g ({ frames := 11, cells := 631, slots := 4125, locals := 220 } : Room) 3 385 2649 765 [some (.ref (za g 0)), some (.int 40), some (.int 100)] [.int 1] (zOf sR71)
  refine k_if_ne S dL_rules_765 (tgt := 770) (by decide) (n := 768) rfl (fun _ => ?_) (fun h9 => absurd h9 (by decide))
  refine k_iinc1 S dL_rules_770 (v := 41) (by decide) (by decide) (n := 773) rfl ?_
  refine k_goto S dL_rules_773 (tgt := 753) (by decide) ?_
  refine k_iload1 S dL_rules_753 (n := 754) rfl ?_
  refine k_bipush S dL_rules_754 (v := 60) (by decide) (n := 756) rfl ?_
  refine k_icmp_ge S dL_rules_756 (tgt := 776) (by decide) (n := 759) rfl (fun h9 => absurd h9 (by decide)) (fun _ => ?_)
  refine k_aload0 S dL_rules_759 (n := 760) rfl ?_
  refine k_iconst S dL_rules_760 (v := 0) (by decide) (n := 761) rfl ?_
  refine k_iconst S dL_rules_761 (v := 0) (by decide) (n := 762) rfl ?_
  refine k_callS (As := [.ref (za g 0), .int 0, .int 0]) (rest := []) S (qR93 hn) mv_L_two m_624 dL_rules_762 rfl rfl ⟨by decide, by decide⟩ rfl rfl (Nat.le_of_ble_eq_true rfl) ⟨by decide, by decide⟩ (n := 765) rfl (fun _ _ h => h.elim) (fun v9 ν9 h9 => ?_)
  rw [h9.1, h9.2]
  show zK x g ({ frames := 11, cells := 631, slots := 4125, locals := 220 } : Room) 3 387 2661 765 [some (.ref (za g 0)), some (.int 41), some (.int 100)] [.int 1] (zOf sR72)
  refine k_if_ne S dL_rules_765 (tgt := 770) (by decide) (n := 768) rfl (fun _ => ?_) (fun h9 => absurd h9 (by decide))
  refine k_iinc1 S dL_rules_770 (v := 42) (by decide) (by decide) (n := 773) rfl ?_
  refine k_goto S dL_rules_773 (tgt := 753) (by decide) ?_
  refine k_iload1 S dL_rules_753 (n := 754) rfl ?_
  refine k_bipush S dL_rules_754 (v := 60) (by decide) (n := 756) rfl ?_
  refine k_icmp_ge S dL_rules_756 (tgt := 776) (by decide) (n := 759) rfl (fun h9 => absurd h9 (by decide)) (fun _ => ?_)
  refine k_aload0 S dL_rules_759 (n := 760) rfl ?_
  refine k_iconst S dL_rules_760 (v := 0) (by decide) (n := 761) rfl ?_
  refine k_iconst S dL_rules_761 (v := 0) (by decide) (n := 762) rfl ?_
  refine k_callS (As := [.ref (za g 0), .int 0, .int 0]) (rest := []) S (qR94 hn) mv_L_two m_624 dL_rules_762 rfl rfl ⟨by decide, by decide⟩ rfl rfl (Nat.le_of_ble_eq_true rfl) ⟨by decide, by decide⟩ (n := 765) rfl (fun _ _ h => h.elim) (fun v9 ν9 h9 => ?_)
  rw [h9.1, h9.2]
  show zK x g ({ frames := 11, cells := 631, slots := 4125, locals := 220 } : Room) 3 389 2673 765 [some (.ref (za g 0)), some (.int 42), some (.int 100)] [.int 1] (zOf sR73)
  refine k_if_ne S dL_rules_765 (tgt := 770) (by decide) (n := 768) rfl (fun _ => ?_) (fun h9 => absurd h9 (by decide))
  refine k_iinc1 S dL_rules_770 (v := 43) (by decide) (by decide) (n := 773) rfl ?_
  refine k_goto S dL_rules_773 (tgt := 753) (by decide) ?_
  refine k_iload1 S dL_rules_753 (n := 754) rfl ?_
  refine k_bipush S dL_rules_754 (v := 60) (by decide) (n := 756) rfl ?_
  refine k_icmp_ge S dL_rules_756 (tgt := 776) (by decide) (n := 759) rfl (fun h9 => absurd h9 (by decide)) (fun _ => ?_)
  refine k_aload0 S dL_rules_759 (n := 760) rfl ?_
  refine k_iconst S dL_rules_760 (v := 0) (by decide) (n := 761) rfl ?_
  refine k_iconst S dL_rules_761 (v := 0) (by decide) (n := 762) rfl ?_
  refine k_callS (As := [.ref (za g 0), .int 0, .int 0]) (rest := []) S (qR95 hn) mv_L_two m_624 dL_rules_762 rfl rfl ⟨by decide, by decide⟩ rfl rfl (Nat.le_of_ble_eq_true rfl) ⟨by decide, by decide⟩ (n := 765) rfl (fun _ _ h => h.elim) (fun v9 ν9 h9 => ?_)
  rw [h9.1, h9.2]
  show zK x g ({ frames := 11, cells := 631, slots := 4125, locals := 220 } : Room) 3 391 2685 765 [some (.ref (za g 0)), some (.int 43), some (.int 100)] [.int 1] (zOf sR74)
  refine k_if_ne S dL_rules_765 (tgt := 770) (by decide) (n := 768) rfl (fun _ => ?_) (fun h9 => absurd h9 (by decide))
  refine k_iinc1 S dL_rules_770 (v := 44) (by decide) (by decide) (n := 773) rfl ?_
  refine k_goto S dL_rules_773 (tgt := 753) (by decide) ?_
  refine k_iload1 S dL_rules_753 (n := 754) rfl ?_
  refine k_bipush S dL_rules_754 (v := 60) (by decide) (n := 756) rfl ?_
  refine k_icmp_ge S dL_rules_756 (tgt := 776) (by decide) (n := 759) rfl (fun h9 => absurd h9 (by decide)) (fun _ => ?_)
  refine k_aload0 S dL_rules_759 (n := 760) rfl ?_
  refine k_iconst S dL_rules_760 (v := 0) (by decide) (n := 761) rfl ?_
  refine k_iconst S dL_rules_761 (v := 0) (by decide) (n := 762) rfl ?_
  refine k_callS (As := [.ref (za g 0), .int 0, .int 0]) (rest := []) S (qR96 hn) mv_L_two m_624 dL_rules_762 rfl rfl ⟨by decide, by decide⟩ rfl rfl (Nat.le_of_ble_eq_true rfl) ⟨by decide, by decide⟩ (n := 765) rfl (fun _ _ h => h.elim) (fun v9 ν9 h9 => ?_)
  rw [h9.1, h9.2]
  show zK x g ({ frames := 11, cells := 631, slots := 4125, locals := 220 } : Room) 3 393 2697 765 [some (.ref (za g 0)), some (.int 44), some (.int 100)] [.int 1] (zOf sR75)
  refine k_if_ne S dL_rules_765 (tgt := 770) (by decide) (n := 768) rfl (fun _ => ?_) (fun h9 => absurd h9 (by decide))
  refine k_iinc1 S dL_rules_770 (v := 45) (by decide) (by decide) (n := 773) rfl ?_
  refine k_goto S dL_rules_773 (tgt := 753) (by decide) ?_
  refine k_iload1 S dL_rules_753 (n := 754) rfl ?_
  refine k_bipush S dL_rules_754 (v := 60) (by decide) (n := 756) rfl ?_
  refine k_icmp_ge S dL_rules_756 (tgt := 776) (by decide) (n := 759) rfl (fun h9 => absurd h9 (by decide)) (fun _ => ?_)
  refine k_aload0 S dL_rules_759 (n := 760) rfl ?_
  refine k_iconst S dL_rules_760 (v := 0) (by decide) (n := 761) rfl ?_
  refine k_iconst S dL_rules_761 (v := 0) (by decide) (n := 762) rfl ?_
  refine k_callS (As := [.ref (za g 0), .int 0, .int 0]) (rest := []) S (qR97 hn) mv_L_two m_624 dL_rules_762 rfl rfl ⟨by decide, by decide⟩ rfl rfl (Nat.le_of_ble_eq_true rfl) ⟨by decide, by decide⟩ (n := 765) rfl (fun _ _ h => h.elim) (fun v9 ν9 h9 => ?_)
  rw [h9.1, h9.2]
  show zK x g ({ frames := 11, cells := 631, slots := 4125, locals := 220 } : Room) 3 395 2709 765 [some (.ref (za g 0)), some (.int 45), some (.int 100)] [.int 1] (zOf sR76)
  refine k_if_ne S dL_rules_765 (tgt := 770) (by decide) (n := 768) rfl (fun _ => ?_) (fun h9 => absurd h9 (by decide))
  refine k_iinc1 S dL_rules_770 (v := 46) (by decide) (by decide) (n := 773) rfl ?_
  refine k_goto S dL_rules_773 (tgt := 753) (by decide) ?_
  refine k_iload1 S dL_rules_753 (n := 754) rfl ?_
  refine k_bipush S dL_rules_754 (v := 60) (by decide) (n := 756) rfl ?_
  refine k_icmp_ge S dL_rules_756 (tgt := 776) (by decide) (n := 759) rfl (fun h9 => absurd h9 (by decide)) (fun _ => ?_)
  refine k_aload0 S dL_rules_759 (n := 760) rfl ?_
  refine k_iconst S dL_rules_760 (v := 0) (by decide) (n := 761) rfl ?_
  refine k_iconst S dL_rules_761 (v := 0) (by decide) (n := 762) rfl ?_
  refine k_callS (As := [.ref (za g 0), .int 0, .int 0]) (rest := []) S (qR98 hn) mv_L_two m_624 dL_rules_762 rfl rfl ⟨by decide, by decide⟩ rfl rfl (Nat.le_of_ble_eq_true rfl) ⟨by decide, by decide⟩ (n := 765) rfl (fun _ _ h => h.elim) (fun v9 ν9 h9 => ?_)
  rw [h9.1, h9.2]
  show zK x g ({ frames := 11, cells := 631, slots := 4125, locals := 220 } : Room) 3 397 2721 765 [some (.ref (za g 0)), some (.int 46), some (.int 100)] [.int 1] (zOf sR77)
  refine k_if_ne S dL_rules_765 (tgt := 770) (by decide) (n := 768) rfl (fun _ => ?_) (fun h9 => absurd h9 (by decide))
  refine k_iinc1 S dL_rules_770 (v := 47) (by decide) (by decide) (n := 773) rfl ?_
  refine k_goto S dL_rules_773 (tgt := 753) (by decide) ?_
  refine k_iload1 S dL_rules_753 (n := 754) rfl ?_
  refine k_bipush S dL_rules_754 (v := 60) (by decide) (n := 756) rfl ?_
  refine k_icmp_ge S dL_rules_756 (tgt := 776) (by decide) (n := 759) rfl (fun h9 => absurd h9 (by decide)) (fun _ => ?_)
  refine k_aload0 S dL_rules_759 (n := 760) rfl ?_
  refine k_iconst S dL_rules_760 (v := 0) (by decide) (n := 761) rfl ?_
  refine k_iconst S dL_rules_761 (v := 0) (by decide) (n := 762) rfl ?_
  refine k_callS (As := [.ref (za g 0), .int 0, .int 0]) (rest := []) S (qR99 hn) mv_L_two m_624 dL_rules_762 rfl rfl ⟨by decide, by decide⟩ rfl rfl (Nat.le_of_ble_eq_true rfl) ⟨by decide, by decide⟩ (n := 765) rfl (fun _ _ h => h.elim) (fun v9 ν9 h9 => ?_)
  rw [h9.1, h9.2]
  show zK x g ({ frames := 11, cells := 631, slots := 4125, locals := 220 } : Room) 3 399 2733 765 [some (.ref (za g 0)), some (.int 47), some (.int 100)] [.int 1] (zOf sR78)
  exact gR13 S hn hend
set_option maxRecDepth 100000 in
set_option maxHeartbeats 4000000 in
theorem gR11 {x : zX} {g : zG} (S : zS x g 3 cL_rules RL) (hn : zn g = 21) (hend : ∀ (ce sl : Nat) (L : List (Option Value)) (μ : zM), ce ≤ 631 → sl ≤ 4125 → zK x g ({ frames := 11, cells := 631, slots := 4125, locals := 220 } : Room) 3 ce sl 937 L [.int 1] μ) : zK x g ({ frames := 11, cells := 631, slots := 4125, locals := 220 } : Room) 3 373 2577 704 [some (.ref (za g 0)), some (.int 8), some (.int 100)] [.int 1] (zOf sR65) := by
  refine k_if_ne S dL_rules_704 (tgt := 709) (by decide) (n := 707) rfl (fun _ => ?_) (fun h9 => absurd h9 (by decide))
  refine k_iinc1 S dL_rules_709 (v := 9) (by decide) (by decide) (n := 712) rfl ?_
  refine k_goto S dL_rules_712 (tgt := 684) (by decide) ?_
  refine k_iload1 S dL_rules_684 (n := 685) rfl ?_
  refine k_bipush S dL_rules_685 (v := 10) (by decide) (n := 687) rfl ?_
  refine k_icmp_ge S dL_rules_687 (tgt := 715) (by decide) (n := 690) rfl (fun h9 => absurd h9 (by decide)) (fun _ => ?_)
  refine k_aload0 S dL_rules_690 (n := 691) rfl ?_
  refine k_callV (As := []) (rest := []) (p := 0) S (qR85 hn) mv_X3_newPhase m_460 dL_rules_691 rfl rfl ⟨by decide, by decide⟩ (zlt S (by decide)) (by decide) (ci := 3) rfl rfl rfl (Nat.le_of_ble_eq_true rfl) ⟨by decide, by decide⟩ (n := 694) rfl (fun _ _ h => h.elim) (fun v9 ν9 h9 => ?_)
  rw [h9.1, h9.2]
  show zK x g ({ frames := 11, cells := 631, slots := 4125, locals := 220 } : Room) 3 374 2583 694 [some (.ref (za g 0)), some (.int 9), some (.int 100)] [.int 9] (zOf sR66)
  refine k_iload1 S dL_rules_694 (n := 695) rfl ?_
  refine k_icmp_ne S dL_rules_695 (tgt := 707) (by decide) (n := 698) rfl (fun h9 => absurd (by decide) h9) (fun _ => ?_)
  refine k_aload0 S dL_rules_698 (n := 699) rfl ?_
  refine k_iload1 S dL_rules_699 (n := 700) rfl ?_
  refine k_iload1 S dL_rules_700 (n := 701) rfl ?_
  refine k_callS (As := [.ref (za g 0), .int 9, .int 9]) (rest := []) S (qR86 hn) mv_L_two m_624 dL_rules_701 rfl rfl ⟨by decide, by decide⟩ rfl rfl (Nat.le_of_ble_eq_true rfl) ⟨by decide, by decide⟩ (n := 704) rfl (fun _ _ h => h.elim) (fun v9 ν9 h9 => ?_)
  rw [h9.1, h9.2]
  show zK x g ({ frames := 11, cells := 631, slots := 4125, locals := 220 } : Room) 3 376 2595 704 [some (.ref (za g 0)), some (.int 9), some (.int 100)] [.int 1] (zOf sR67)
  refine k_if_ne S dL_rules_704 (tgt := 709) (by decide) (n := 707) rfl (fun _ => ?_) (fun h9 => absurd h9 (by decide))
  refine k_iinc1 S dL_rules_709 (v := 10) (by decide) (by decide) (n := 712) rfl ?_
  refine k_goto S dL_rules_712 (tgt := 684) (by decide) ?_
  refine k_iload1 S dL_rules_684 (n := 685) rfl ?_
  refine k_bipush S dL_rules_685 (v := 10) (by decide) (n := 687) rfl ?_
  refine k_icmp_ge S dL_rules_687 (tgt := 715) (by decide) (n := 690) rfl (fun _ => ?_) (fun h9 => absurd (by decide) h9)
  refine k_aload0 S dL_rules_715 (n := 716) rfl ?_
  refine k_iconst S dL_rules_716 (v := 1) (by decide) (n := 717) rfl ?_
  refine k_iconst S dL_rules_717 (v := 0) (by decide) (n := 718) rfl ?_
  refine k_iconst S dL_rules_718 (v := 0) (by decide) (n := 719) rfl ?_
  refine k_iconst S dL_rules_719 (v := 0) (by decide) (n := 720) rfl ?_
  refine k_callH (As := [.ref (za g 0), .int 1, .int 0, .int 0, .int 0]) (rest := []) S (x_act1 (Or.inr (Or.inr rfl)) (n_newPhase vR67 (by unfold zNP; decide +kernel))) mv_L_act m_457 dL_rules_720 rfl rfl ⟨by decide, by decide⟩ rfl rfl (Nat.le_of_ble_eq_true rfl) ⟨by decide, by decide⟩ (n := 723) rfl (fun _ _ h => h.elim) (fun v9 ν9 h9 => ?_)
  rw [h9.1, h9.2]
  show zK x g ({ frames := 11, cells := 631, slots := 4125, locals := 220 } : Room) 3 377 2601 723 [some (.ref (za g 0)), some (.int 10), some (.int 100)] [.long ((zcd "java/lang/IllegalStateException"))] (zOf sR67)
  refine k_topl (-99000013) zcd_s ?_
  refine k_ldc2 S dL_rules_723 (v := (-99000013)) m_620 (n := 726) rfl ?_
  refine k_lcmp S dL_rules_726 (n := 727) rfl ?_
  refine k_top 0 (by decide) ?_
  refine k_if_ne S dL_rules_727 (tgt := 748) (by decide) (n := 730) rfl (fun h9 => absurd (by decide) h9) (fun _ => ?_)
  refine k_aload0 S dL_rules_730 (n := 731) rfl ?_
  refine k_callV (As := []) (rest := []) (p := 0) S (qR87 hn) mv_X3_phases m_347 dL_rules_731 rfl rfl ⟨by decide, by decide⟩ (zlt S (by decide)) (by decide) (ci := 3) rfl rfl rfl (Nat.le_of_ble_eq_true rfl) ⟨by decide, by decide⟩ (n := 734) rfl (fun _ _ h => h.elim) (fun v9 ν9 h9 => ?_)
  rw [h9.1, h9.2]
  show zK x g ({ frames := 11, cells := 631, slots := 4125, locals := 220 } : Room) 3 377 2601 734 [some (.ref (za g 0)), some (.int 10), some (.int 100)] [.int 10] (zOf sR67)
  refine k_bipush S dL_rules_734 (v := 10) (by decide) (n := 736) rfl ?_
  refine k_icmp_ne S dL_rules_736 (tgt := 748) (by decide) (n := 739) rfl (fun h9 => absurd (by decide) h9) (fun _ => ?_)
  refine k_aload0 S dL_rules_739 (n := 740) rfl ?_
  refine k_callV (As := []) (rest := []) (p := 0) S (qR88 hn) mv_X3_subgroups m_331 dL_rules_740 rfl rfl ⟨by decide, by decide⟩ (zlt S (by decide)) (by decide) (ci := 3) rfl rfl rfl (Nat.le_of_ble_eq_true rfl) ⟨by decide, by decide⟩ (n := 743) rfl (fun _ _ h => h.elim) (fun v9 ν9 h9 => ?_)
  rw [h9.1, h9.2]
  show zK x g ({ frames := 11, cells := 631, slots := 4125, locals := 220 } : Room) 3 377 2601 743 [some (.ref (za g 0)), some (.int 10), some (.int 100)] [.int 37] (zOf sR67)
  refine k_bipush S dL_rules_743 (v := 37) (by decide) (n := 745) rfl ?_
  refine k_icmp_eq S dL_rules_745 (tgt := 750) (by decide) (n := 748) rfl (fun _ => ?_) (fun h9 => absurd (by decide) h9)
  refine k_bipush S dL_rules_750 (v := 37) (by decide) (n := 752) rfl ?_
  refine k_istore1 S dL_rules_752 (by decide) rfl (n := 753) rfl ?_
  refine k_iload1 S dL_rules_753 (n := 754) rfl ?_
  refine k_bipush S dL_rules_754 (v := 60) (by decide) (n := 756) rfl ?_
  refine k_icmp_ge S dL_rules_756 (tgt := 776) (by decide) (n := 759) rfl (fun h9 => absurd h9 (by decide)) (fun _ => ?_)
  refine k_aload0 S dL_rules_759 (n := 760) rfl ?_
  refine k_iconst S dL_rules_760 (v := 0) (by decide) (n := 761) rfl ?_
  refine k_iconst S dL_rules_761 (v := 0) (by decide) (n := 762) rfl ?_
  refine k_callS (As := [.ref (za g 0), .int 0, .int 0]) (rest := []) S (qR89 hn) mv_L_two m_624 dL_rules_762 rfl rfl ⟨by decide, by decide⟩ rfl rfl (Nat.le_of_ble_eq_true rfl) ⟨by decide, by decide⟩ (n := 765) rfl (fun _ _ h => h.elim) (fun v9 ν9 h9 => ?_)
  rw [h9.1, h9.2]
  show zK x g ({ frames := 11, cells := 631, slots := 4125, locals := 220 } : Room) 3 379 2613 765 [some (.ref (za g 0)), some (.int 37), some (.int 100)] [.int 1] (zOf sR68)
  refine k_if_ne S dL_rules_765 (tgt := 770) (by decide) (n := 768) rfl (fun _ => ?_) (fun h9 => absurd h9 (by decide))
  refine k_iinc1 S dL_rules_770 (v := 38) (by decide) (by decide) (n := 773) rfl ?_
  refine k_goto S dL_rules_773 (tgt := 753) (by decide) ?_
  refine k_iload1 S dL_rules_753 (n := 754) rfl ?_
  refine k_bipush S dL_rules_754 (v := 60) (by decide) (n := 756) rfl ?_
  refine k_icmp_ge S dL_rules_756 (tgt := 776) (by decide) (n := 759) rfl (fun h9 => absurd h9 (by decide)) (fun _ => ?_)
  refine k_aload0 S dL_rules_759 (n := 760) rfl ?_
  refine k_iconst S dL_rules_760 (v := 0) (by decide) (n := 761) rfl ?_
  refine k_iconst S dL_rules_761 (v := 0) (by decide) (n := 762) rfl ?_
  refine k_callS (As := [.ref (za g 0), .int 0, .int 0]) (rest := []) S (qR90 hn) mv_L_two m_624 dL_rules_762 rfl rfl ⟨by decide, by decide⟩ rfl rfl (Nat.le_of_ble_eq_true rfl) ⟨by decide, by decide⟩ (n := 765) rfl (fun _ _ h => h.elim) (fun v9 ν9 h9 => ?_)
  rw [h9.1, h9.2]
  show zK x g ({ frames := 11, cells := 631, slots := 4125, locals := 220 } : Room) 3 381 2625 765 [some (.ref (za g 0)), some (.int 38), some (.int 100)] [.int 1] (zOf sR69)
  refine k_if_ne S dL_rules_765 (tgt := 770) (by decide) (n := 768) rfl (fun _ => ?_) (fun h9 => absurd h9 (by decide))
  refine k_iinc1 S dL_rules_770 (v := 39) (by decide) (by decide) (n := 773) rfl ?_
  refine k_goto S dL_rules_773 (tgt := 753) (by decide) ?_
  refine k_iload1 S dL_rules_753 (n := 754) rfl ?_
  refine k_bipush S dL_rules_754 (v := 60) (by decide) (n := 756) rfl ?_
  refine k_icmp_ge S dL_rules_756 (tgt := 776) (by decide) (n := 759) rfl (fun h9 => absurd h9 (by decide)) (fun _ => ?_)
  refine k_aload0 S dL_rules_759 (n := 760) rfl ?_
  refine k_iconst S dL_rules_760 (v := 0) (by decide) (n := 761) rfl ?_
  refine k_iconst S dL_rules_761 (v := 0) (by decide) (n := 762) rfl ?_
  refine k_callS (As := [.ref (za g 0), .int 0, .int 0]) (rest := []) S (qR91 hn) mv_L_two m_624 dL_rules_762 rfl rfl ⟨by decide, by decide⟩ rfl rfl (Nat.le_of_ble_eq_true rfl) ⟨by decide, by decide⟩ (n := 765) rfl (fun _ _ h => h.elim) (fun v9 ν9 h9 => ?_)
  rw [h9.1, h9.2]
  show zK x g ({ frames := 11, cells := 631, slots := 4125, locals := 220 } : Room) 3 383 2637 765 [some (.ref (za g 0)), some (.int 39), some (.int 100)] [.int 1] (zOf sR70)
  exact gR12 S hn hend
set_option maxRecDepth 100000 in
set_option maxHeartbeats 4000000 in
theorem gR10 {x : zX} {g : zG} (S : zS x g 3 cL_rules RL) (hn : zn g = 21) (hend : ∀ (ce sl : Nat) (L : List (Option Value)) (μ : zM), ce ≤ 631 → sl ≤ 4125 → zK x g ({ frames := 11, cells := 631, slots := 4125, locals := 220 } : Room) 3 ce sl 937 L [.int 1] μ) : zK x g ({ frames := 11, cells := 631, slots := 4125, locals := 220 } : Room) 3 361 2505 704 [some (.ref (za g 0)), some (.int 4), some (.int 100)] [.int 1] (zOf sR57) := by
  refine k_if_ne S dL_rules_704 (tgt := 709) (by decide) (n := 707) rfl (fun _ => ?_) (fun h9 => absurd h9 (by decide))
  refine k_iinc1 S dL_rules_709 (v := 5) (by decide) (by decide) (n := 712) rfl ?_
  refine k_goto S dL_rules_712 (tgt := 684) (by decide) ?_
  refine k_iload1 S dL_rules_684 (n := 685) rfl ?_
  refine k_bipush S dL_rules_685 (v := 10) (by decide) (n := 687) rfl ?_
  refine k_icmp_ge S dL_rules_687 (tgt := 715) (by decide) (n := 690) rfl (fun h9 => absurd h9 (by decide)) (fun _ => ?_)
  refine k_aload0 S dL_rules_690 (n := 691) rfl ?_
  refine k_callV (As := []) (rest := []) (p := 0) S (qR77 hn) mv_X3_newPhase m_460 dL_rules_691 rfl rfl ⟨by decide, by decide⟩ (zlt S (by decide)) (by decide) (ci := 3) rfl rfl rfl (Nat.le_of_ble_eq_true rfl) ⟨by decide, by decide⟩ (n := 694) rfl (fun _ _ h => h.elim) (fun v9 ν9 h9 => ?_)
  rw [h9.1, h9.2]
  show zK x g ({ frames := 11, cells := 631, slots := 4125, locals := 220 } : Room) 3 362 2511 694 [some (.ref (za g 0)), some (.int 5), some (.int 100)] [.int 5] (zOf sR58)
  refine k_iload1 S dL_rules_694 (n := 695) rfl ?_
  refine k_icmp_ne S dL_rules_695 (tgt := 707) (by decide) (n := 698) rfl (fun h9 => absurd (by decide) h9) (fun _ => ?_)
  refine k_aload0 S dL_rules_698 (n := 699) rfl ?_
  refine k_iload1 S dL_rules_699 (n := 700) rfl ?_
  refine k_iload1 S dL_rules_700 (n := 701) rfl ?_
  refine k_callS (As := [.ref (za g 0), .int 5, .int 5]) (rest := []) S (qR78 hn) mv_L_two m_624 dL_rules_701 rfl rfl ⟨by decide, by decide⟩ rfl rfl (Nat.le_of_ble_eq_true rfl) ⟨by decide, by decide⟩ (n := 704) rfl (fun _ _ h => h.elim) (fun v9 ν9 h9 => ?_)
  rw [h9.1, h9.2]
  show zK x g ({ frames := 11, cells := 631, slots := 4125, locals := 220 } : Room) 3 364 2523 704 [some (.ref (za g 0)), some (.int 5), some (.int 100)] [.int 1] (zOf sR59)
  refine k_if_ne S dL_rules_704 (tgt := 709) (by decide) (n := 707) rfl (fun _ => ?_) (fun h9 => absurd h9 (by decide))
  refine k_iinc1 S dL_rules_709 (v := 6) (by decide) (by decide) (n := 712) rfl ?_
  refine k_goto S dL_rules_712 (tgt := 684) (by decide) ?_
  refine k_iload1 S dL_rules_684 (n := 685) rfl ?_
  refine k_bipush S dL_rules_685 (v := 10) (by decide) (n := 687) rfl ?_
  refine k_icmp_ge S dL_rules_687 (tgt := 715) (by decide) (n := 690) rfl (fun h9 => absurd h9 (by decide)) (fun _ => ?_)
  refine k_aload0 S dL_rules_690 (n := 691) rfl ?_
  refine k_callV (As := []) (rest := []) (p := 0) S (qR79 hn) mv_X3_newPhase m_460 dL_rules_691 rfl rfl ⟨by decide, by decide⟩ (zlt S (by decide)) (by decide) (ci := 3) rfl rfl rfl (Nat.le_of_ble_eq_true rfl) ⟨by decide, by decide⟩ (n := 694) rfl (fun _ _ h => h.elim) (fun v9 ν9 h9 => ?_)
  rw [h9.1, h9.2]
  show zK x g ({ frames := 11, cells := 631, slots := 4125, locals := 220 } : Room) 3 365 2529 694 [some (.ref (za g 0)), some (.int 6), some (.int 100)] [.int 6] (zOf sR60)
  refine k_iload1 S dL_rules_694 (n := 695) rfl ?_
  refine k_icmp_ne S dL_rules_695 (tgt := 707) (by decide) (n := 698) rfl (fun h9 => absurd (by decide) h9) (fun _ => ?_)
  refine k_aload0 S dL_rules_698 (n := 699) rfl ?_
  refine k_iload1 S dL_rules_699 (n := 700) rfl ?_
  refine k_iload1 S dL_rules_700 (n := 701) rfl ?_
  refine k_callS (As := [.ref (za g 0), .int 6, .int 6]) (rest := []) S (qR80 hn) mv_L_two m_624 dL_rules_701 rfl rfl ⟨by decide, by decide⟩ rfl rfl (Nat.le_of_ble_eq_true rfl) ⟨by decide, by decide⟩ (n := 704) rfl (fun _ _ h => h.elim) (fun v9 ν9 h9 => ?_)
  rw [h9.1, h9.2]
  show zK x g ({ frames := 11, cells := 631, slots := 4125, locals := 220 } : Room) 3 367 2541 704 [some (.ref (za g 0)), some (.int 6), some (.int 100)] [.int 1] (zOf sR61)
  refine k_if_ne S dL_rules_704 (tgt := 709) (by decide) (n := 707) rfl (fun _ => ?_) (fun h9 => absurd h9 (by decide))
  refine k_iinc1 S dL_rules_709 (v := 7) (by decide) (by decide) (n := 712) rfl ?_
  refine k_goto S dL_rules_712 (tgt := 684) (by decide) ?_
  refine k_iload1 S dL_rules_684 (n := 685) rfl ?_
  refine k_bipush S dL_rules_685 (v := 10) (by decide) (n := 687) rfl ?_
  refine k_icmp_ge S dL_rules_687 (tgt := 715) (by decide) (n := 690) rfl (fun h9 => absurd h9 (by decide)) (fun _ => ?_)
  refine k_aload0 S dL_rules_690 (n := 691) rfl ?_
  refine k_callV (As := []) (rest := []) (p := 0) S (qR81 hn) mv_X3_newPhase m_460 dL_rules_691 rfl rfl ⟨by decide, by decide⟩ (zlt S (by decide)) (by decide) (ci := 3) rfl rfl rfl (Nat.le_of_ble_eq_true rfl) ⟨by decide, by decide⟩ (n := 694) rfl (fun _ _ h => h.elim) (fun v9 ν9 h9 => ?_)
  rw [h9.1, h9.2]
  show zK x g ({ frames := 11, cells := 631, slots := 4125, locals := 220 } : Room) 3 368 2547 694 [some (.ref (za g 0)), some (.int 7), some (.int 100)] [.int 7] (zOf sR62)
  refine k_iload1 S dL_rules_694 (n := 695) rfl ?_
  refine k_icmp_ne S dL_rules_695 (tgt := 707) (by decide) (n := 698) rfl (fun h9 => absurd (by decide) h9) (fun _ => ?_)
  refine k_aload0 S dL_rules_698 (n := 699) rfl ?_
  refine k_iload1 S dL_rules_699 (n := 700) rfl ?_
  refine k_iload1 S dL_rules_700 (n := 701) rfl ?_
  refine k_callS (As := [.ref (za g 0), .int 7, .int 7]) (rest := []) S (qR82 hn) mv_L_two m_624 dL_rules_701 rfl rfl ⟨by decide, by decide⟩ rfl rfl (Nat.le_of_ble_eq_true rfl) ⟨by decide, by decide⟩ (n := 704) rfl (fun _ _ h => h.elim) (fun v9 ν9 h9 => ?_)
  rw [h9.1, h9.2]
  show zK x g ({ frames := 11, cells := 631, slots := 4125, locals := 220 } : Room) 3 370 2559 704 [some (.ref (za g 0)), some (.int 7), some (.int 100)] [.int 1] (zOf sR63)
  refine k_if_ne S dL_rules_704 (tgt := 709) (by decide) (n := 707) rfl (fun _ => ?_) (fun h9 => absurd h9 (by decide))
  refine k_iinc1 S dL_rules_709 (v := 8) (by decide) (by decide) (n := 712) rfl ?_
  refine k_goto S dL_rules_712 (tgt := 684) (by decide) ?_
  refine k_iload1 S dL_rules_684 (n := 685) rfl ?_
  refine k_bipush S dL_rules_685 (v := 10) (by decide) (n := 687) rfl ?_
  refine k_icmp_ge S dL_rules_687 (tgt := 715) (by decide) (n := 690) rfl (fun h9 => absurd h9 (by decide)) (fun _ => ?_)
  refine k_aload0 S dL_rules_690 (n := 691) rfl ?_
  refine k_callV (As := []) (rest := []) (p := 0) S (qR83 hn) mv_X3_newPhase m_460 dL_rules_691 rfl rfl ⟨by decide, by decide⟩ (zlt S (by decide)) (by decide) (ci := 3) rfl rfl rfl (Nat.le_of_ble_eq_true rfl) ⟨by decide, by decide⟩ (n := 694) rfl (fun _ _ h => h.elim) (fun v9 ν9 h9 => ?_)
  rw [h9.1, h9.2]
  show zK x g ({ frames := 11, cells := 631, slots := 4125, locals := 220 } : Room) 3 371 2565 694 [some (.ref (za g 0)), some (.int 8), some (.int 100)] [.int 8] (zOf sR64)
  refine k_iload1 S dL_rules_694 (n := 695) rfl ?_
  refine k_icmp_ne S dL_rules_695 (tgt := 707) (by decide) (n := 698) rfl (fun h9 => absurd (by decide) h9) (fun _ => ?_)
  refine k_aload0 S dL_rules_698 (n := 699) rfl ?_
  refine k_iload1 S dL_rules_699 (n := 700) rfl ?_
  refine k_iload1 S dL_rules_700 (n := 701) rfl ?_
  refine k_callS (As := [.ref (za g 0), .int 8, .int 8]) (rest := []) S (qR84 hn) mv_L_two m_624 dL_rules_701 rfl rfl ⟨by decide, by decide⟩ rfl rfl (Nat.le_of_ble_eq_true rfl) ⟨by decide, by decide⟩ (n := 704) rfl (fun _ _ h => h.elim) (fun v9 ν9 h9 => ?_)
  rw [h9.1, h9.2]
  show zK x g ({ frames := 11, cells := 631, slots := 4125, locals := 220 } : Room) 3 373 2577 704 [some (.ref (za g 0)), some (.int 8), some (.int 100)] [.int 1] (zOf sR65)
  exact gR11 S hn hend
set_option maxRecDepth 100000 in
set_option maxHeartbeats 4000000 in
theorem gR9 {x : zX} {g : zG} (S : zS x g 3 cL_rules RL) (hn : zn g = 21) (hend : ∀ (ce sl : Nat) (L : List (Option Value)) (μ : zM), ce ≤ 631 → sl ≤ 4125 → zK x g ({ frames := 11, cells := 631, slots := 4125, locals := 220 } : Room) 3 ce sl 937 L [.int 1] μ) : zK x g ({ frames := 11, cells := 631, slots := 4125, locals := 220 } : Room) 3 348 2427 656 [some (.ref (za g 0)), some (.int 23), some (.int 100)] [.int 1880] (zOf sR50) := by
  refine k_sipush S dL_rules_656 (v := 1880) (by decide) (n := 659) rfl ?_
  refine k_icmp_ne S dL_rules_659 (tgt := 680) (by decide) (n := 662) rfl (fun h9 => absurd (by decide) h9) (fun _ => ?_)
  refine k_aload0 S dL_rules_662 (n := 663) rfl ?_
  refine k_iconst S dL_rules_663 (v := 0) (by decide) (n := 664) rfl ?_
  refine k_callV (As := [.int 0]) (rest := []) (p := 0) S (qR69 hn) mv_X3_center m_497 dL_rules_664 rfl rfl ⟨by decide, by decide⟩ (zlt S (by decide)) (by decide) (ci := 3) rfl rfl rfl (Nat.le_of_ble_eq_true rfl) ⟨by decide, by decide⟩ (n := 667) rfl (fun _ _ h => h.elim) (fun v9 ν9 h9 => ?_)
  rw [h9.1, h9.2]
  show zK x g ({ frames := 11, cells := 631, slots := 4125, locals := 220 } : Room) 3 350 2439 667 [some (.ref (za g 0)), some (.int 23), some (.int 100)] [.int 0] (zOf sR50)
  refine k_if_ne S dL_rules_667 (tgt := 680) (by decide) (n := 670) rfl (fun h9 => absurd (by decide) h9) (fun _ => ?_)
  refine k_aload0 S dL_rules_670 (n := 671) rfl ?_
  refine k_bipush S dL_rules_671 (v := 28) (by decide) (n := 673) rfl ?_
  refine k_iconst S dL_rules_673 (v := 0) (by decide) (n := 674) rfl ?_
  refine k_callS (As := [.ref (za g 0), .int 28, .int 0]) (rest := []) S (qR70 hn) mv_L_breaks m_630 dL_rules_674 rfl rfl ⟨by decide, by decide⟩ rfl rfl (Nat.le_of_ble_eq_true rfl) ⟨by decide, by decide⟩ (n := 677) rfl (fun _ _ h => h.elim) (fun v9 ν9 h9 => ?_)
  rw [h9.1, h9.2]
  show zK x g ({ frames := 11, cells := 631, slots := 4125, locals := 220 } : Room) 3 352 2451 677 [some (.ref (za g 0)), some (.int 23), some (.int 100)] [.int 1] (zOf sR51)
  refine k_if_ne S dL_rules_677 (tgt := 682) (by decide) (n := 680) rfl (fun _ => ?_) (fun h9 => absurd h9 (by decide))
  refine k_iconst S dL_rules_682 (v := 2) (by decide) (n := 683) rfl ?_
  refine k_istore1 S dL_rules_683 (by decide) rfl (n := 684) rfl ?_
  refine k_iload1 S dL_rules_684 (n := 685) rfl ?_
  refine k_bipush S dL_rules_685 (v := 10) (by decide) (n := 687) rfl ?_
  refine k_icmp_ge S dL_rules_687 (tgt := 715) (by decide) (n := 690) rfl (fun h9 => absurd h9 (by decide)) (fun _ => ?_)
  refine k_aload0 S dL_rules_690 (n := 691) rfl ?_
  refine k_callV (As := []) (rest := []) (p := 0) S (qR71 hn) mv_X3_newPhase m_460 dL_rules_691 rfl rfl ⟨by decide, by decide⟩ (zlt S (by decide)) (by decide) (ci := 3) rfl rfl rfl (Nat.le_of_ble_eq_true rfl) ⟨by decide, by decide⟩ (n := 694) rfl (fun _ _ h => h.elim) (fun v9 ν9 h9 => ?_)
  rw [h9.1, h9.2]
  show zK x g ({ frames := 11, cells := 631, slots := 4125, locals := 220 } : Room) 3 353 2457 694 [some (.ref (za g 0)), some (.int 2), some (.int 100)] [.int 2] (zOf sR52)
  refine k_iload1 S dL_rules_694 (n := 695) rfl ?_
  refine k_icmp_ne S dL_rules_695 (tgt := 707) (by decide) (n := 698) rfl (fun h9 => absurd (by decide) h9) (fun _ => ?_)
  refine k_aload0 S dL_rules_698 (n := 699) rfl ?_
  refine k_iload1 S dL_rules_699 (n := 700) rfl ?_
  refine k_iload1 S dL_rules_700 (n := 701) rfl ?_
  refine k_callS (As := [.ref (za g 0), .int 2, .int 2]) (rest := []) S (qR72 hn) mv_L_two m_624 dL_rules_701 rfl rfl ⟨by decide, by decide⟩ rfl rfl (Nat.le_of_ble_eq_true rfl) ⟨by decide, by decide⟩ (n := 704) rfl (fun _ _ h => h.elim) (fun v9 ν9 h9 => ?_)
  rw [h9.1, h9.2]
  show zK x g ({ frames := 11, cells := 631, slots := 4125, locals := 220 } : Room) 3 355 2469 704 [some (.ref (za g 0)), some (.int 2), some (.int 100)] [.int 1] (zOf sR53)
  refine k_if_ne S dL_rules_704 (tgt := 709) (by decide) (n := 707) rfl (fun _ => ?_) (fun h9 => absurd h9 (by decide))
  refine k_iinc1 S dL_rules_709 (v := 3) (by decide) (by decide) (n := 712) rfl ?_
  refine k_goto S dL_rules_712 (tgt := 684) (by decide) ?_
  refine k_iload1 S dL_rules_684 (n := 685) rfl ?_
  refine k_bipush S dL_rules_685 (v := 10) (by decide) (n := 687) rfl ?_
  refine k_icmp_ge S dL_rules_687 (tgt := 715) (by decide) (n := 690) rfl (fun h9 => absurd h9 (by decide)) (fun _ => ?_)
  refine k_aload0 S dL_rules_690 (n := 691) rfl ?_
  refine k_callV (As := []) (rest := []) (p := 0) S (qR73 hn) mv_X3_newPhase m_460 dL_rules_691 rfl rfl ⟨by decide, by decide⟩ (zlt S (by decide)) (by decide) (ci := 3) rfl rfl rfl (Nat.le_of_ble_eq_true rfl) ⟨by decide, by decide⟩ (n := 694) rfl (fun _ _ h => h.elim) (fun v9 ν9 h9 => ?_)
  rw [h9.1, h9.2]
  show zK x g ({ frames := 11, cells := 631, slots := 4125, locals := 220 } : Room) 3 356 2475 694 [some (.ref (za g 0)), some (.int 3), some (.int 100)] [.int 3] (zOf sR54)
  refine k_iload1 S dL_rules_694 (n := 695) rfl ?_
  refine k_icmp_ne S dL_rules_695 (tgt := 707) (by decide) (n := 698) rfl (fun h9 => absurd (by decide) h9) (fun _ => ?_)
  refine k_aload0 S dL_rules_698 (n := 699) rfl ?_
  refine k_iload1 S dL_rules_699 (n := 700) rfl ?_
  refine k_iload1 S dL_rules_700 (n := 701) rfl ?_
  refine k_callS (As := [.ref (za g 0), .int 3, .int 3]) (rest := []) S (qR74 hn) mv_L_two m_624 dL_rules_701 rfl rfl ⟨by decide, by decide⟩ rfl rfl (Nat.le_of_ble_eq_true rfl) ⟨by decide, by decide⟩ (n := 704) rfl (fun _ _ h => h.elim) (fun v9 ν9 h9 => ?_)
  rw [h9.1, h9.2]
  show zK x g ({ frames := 11, cells := 631, slots := 4125, locals := 220 } : Room) 3 358 2487 704 [some (.ref (za g 0)), some (.int 3), some (.int 100)] [.int 1] (zOf sR55)
  refine k_if_ne S dL_rules_704 (tgt := 709) (by decide) (n := 707) rfl (fun _ => ?_) (fun h9 => absurd h9 (by decide))
  refine k_iinc1 S dL_rules_709 (v := 4) (by decide) (by decide) (n := 712) rfl ?_
  refine k_goto S dL_rules_712 (tgt := 684) (by decide) ?_
  refine k_iload1 S dL_rules_684 (n := 685) rfl ?_
  refine k_bipush S dL_rules_685 (v := 10) (by decide) (n := 687) rfl ?_
  refine k_icmp_ge S dL_rules_687 (tgt := 715) (by decide) (n := 690) rfl (fun h9 => absurd h9 (by decide)) (fun _ => ?_)
  refine k_aload0 S dL_rules_690 (n := 691) rfl ?_
  refine k_callV (As := []) (rest := []) (p := 0) S (qR75 hn) mv_X3_newPhase m_460 dL_rules_691 rfl rfl ⟨by decide, by decide⟩ (zlt S (by decide)) (by decide) (ci := 3) rfl rfl rfl (Nat.le_of_ble_eq_true rfl) ⟨by decide, by decide⟩ (n := 694) rfl (fun _ _ h => h.elim) (fun v9 ν9 h9 => ?_)
  rw [h9.1, h9.2]
  show zK x g ({ frames := 11, cells := 631, slots := 4125, locals := 220 } : Room) 3 359 2493 694 [some (.ref (za g 0)), some (.int 4), some (.int 100)] [.int 4] (zOf sR56)
  refine k_iload1 S dL_rules_694 (n := 695) rfl ?_
  refine k_icmp_ne S dL_rules_695 (tgt := 707) (by decide) (n := 698) rfl (fun h9 => absurd (by decide) h9) (fun _ => ?_)
  refine k_aload0 S dL_rules_698 (n := 699) rfl ?_
  refine k_iload1 S dL_rules_699 (n := 700) rfl ?_
  refine k_iload1 S dL_rules_700 (n := 701) rfl ?_
  refine k_callS (As := [.ref (za g 0), .int 4, .int 4]) (rest := []) S (qR76 hn) mv_L_two m_624 dL_rules_701 rfl rfl ⟨by decide, by decide⟩ rfl rfl (Nat.le_of_ble_eq_true rfl) ⟨by decide, by decide⟩ (n := 704) rfl (fun _ _ h => h.elim) (fun v9 ν9 h9 => ?_)
  rw [h9.1, h9.2]
  show zK x g ({ frames := 11, cells := 631, slots := 4125, locals := 220 } : Room) 3 361 2505 704 [some (.ref (za g 0)), some (.int 4), some (.int 100)] [.int 1] (zOf sR57)
  exact gR10 S hn hend
set_option maxRecDepth 100000 in
set_option maxHeartbeats 4000000 in
theorem gR8 {x : zX} {g : zG} (S : zS x g 3 cL_rules RL) (hn : zn g = 21) (hend : ∀ (ce sl : Nat) (L : List (Option Value)) (μ : zM), ce ≤ 631 → sl ≤ 4125 → zK x g ({ frames := 11, cells := 631, slots := 4125, locals := 220 } : Room) 3 ce sl 937 L [.int 1] μ) : zK x g ({ frames := 11, cells := 631, slots := 4125, locals := 220 } : Room) 3 336 2355 568 [some (.ref (za g 0)), some (.int 23), some (.int 100)] [.long ((-99000013))] (zOf sR49) := by
  refine k_ldc2 S dL_rules_568 (v := (-99000013)) m_620 (n := 571) rfl ?_
  refine k_lcmp S dL_rules_571 (n := 572) rfl ?_
  refine k_top 0 (by decide) ?_
  refine k_if_ne S dL_rules_572 (tgt := 680) (by decide) (n := 575) rfl (fun h9 => absurd (by decide) h9) (fun _ => ?_)
  refine k_aload0 S dL_rules_575 (n := 576) rfl ?_
  refine k_iconst S dL_rules_576 (v := 1) (by decide) (n := 577) rfl ?_
  refine k_callV (As := [.int 1]) (rest := []) (p := 0) S (qR62 hn) mv_X3_points m_493 dL_rules_577 rfl rfl ⟨by decide, by decide⟩ (zlt S (by decide)) (by decide) (ci := 3) rfl rfl rfl (Nat.le_of_ble_eq_true rfl) ⟨by decide, by decide⟩ (n := 580) rfl (fun _ _ h => h.elim) (fun v9 ν9 h9 => ?_)
  rw [h9.1, h9.2]
  show zK x g ({ frames := 11, cells := 631, slots := 4125, locals := 220 } : Room) 3 337 2361 580 [some (.ref (za g 0)), some (.int 23), some (.int 100)] [.int 0] (zOf sR49)
  refine k_if_ne S dL_rules_580 (tgt := 680) (by decide) (n := 583) rfl (fun h9 => absurd (by decide) h9) (fun _ => ?_)
  refine k_aload0 S dL_rules_583 (n := 584) rfl ?_
  refine k_bipush S dL_rules_584 (v := 7) (by decide) (n := 586) rfl ?_
  refine k_iconst S dL_rules_586 (v := 1) (by decide) (n := 587) rfl ?_
  refine k_iconst S dL_rules_587 (v := 0) (by decide) (n := 588) rfl ?_
  refine k_iconst S dL_rules_588 (v := 0) (by decide) (n := 589) rfl ?_
  refine k_callH (As := [.ref (za g 0), .int 7, .int 1, .int 0, .int 0]) (rest := []) S (x_act7 (Or.inr (Or.inr rfl)) (n_center_state vR49 (k := 1) (by decide) (by unfold zLm; decide +kernel))) mv_L_act m_457 dL_rules_589 rfl rfl ⟨by decide, by decide⟩ rfl rfl (Nat.le_of_ble_eq_true rfl) ⟨by decide, by decide⟩ (n := 592) rfl (fun _ _ h => h.elim) (fun v9 ν9 h9 => ?_)
  rw [h9.1, h9.2]
  show zK x g ({ frames := 11, cells := 631, slots := 4125, locals := 220 } : Room) 3 339 2373 592 [some (.ref (za g 0)), some (.int 23), some (.int 100)] [.long ((zcd "java/lang/IllegalStateException"))] (zOf sR49)
  refine k_topl (-99000013) zcd_s ?_
  refine k_ldc2 S dL_rules_592 (v := (-99000013)) m_620 (n := 595) rfl ?_
  refine k_lcmp S dL_rules_595 (n := 596) rfl ?_
  refine k_top 0 (by decide) ?_
  refine k_if_ne S dL_rules_596 (tgt := 680) (by decide) (n := 599) rfl (fun h9 => absurd (by decide) h9) (fun _ => ?_)
  refine k_aload0 S dL_rules_599 (n := 600) rfl ?_
  refine k_iconst S dL_rules_600 (v := (-1)) (by decide) (n := 601) rfl ?_
  refine k_bipush S dL_rules_601 (v := (-2)) (by decide) (n := 603) rfl ?_
  refine k_callS (As := [.ref (za g 0), .int ((-1)), .int ((-2))]) (rest := []) S (qR63 hn) mv_L_two m_624 dL_rules_603 rfl rfl ⟨by decide, by decide⟩ rfl rfl (Nat.le_of_ble_eq_true rfl) ⟨by decide, by decide⟩ (n := 606) rfl (fun _ _ h => h.elim) (fun v9 ν9 h9 => ?_)
  rw [h9.1, h9.2]
  show zK x g ({ frames := 11, cells := 631, slots := 4125, locals := 220 } : Room) 3 341 2385 606 [some (.ref (za g 0)), some (.int 23), some (.int 100)] [.int 1] (zOf sR50)
  refine k_if_eq S dL_rules_606 (tgt := 680) (by decide) (n := 609) rfl (fun h9 => absurd h9 (by decide)) (fun _ => ?_)
  refine k_aload0 S dL_rules_609 (n := 610) rfl ?_
  refine k_bipush S dL_rules_610 (v := 28) (by decide) (n := 612) rfl ?_
  refine k_callV (As := [.int 28]) (rest := []) (p := 0) S (qR64 hn) mv_X3_mean m_481 dL_rules_612 rfl rfl ⟨by decide, by decide⟩ (zlt S (by decide)) (by decide) (ci := 3) rfl rfl rfl (Nat.le_of_ble_eq_true rfl) ⟨by decide, by decide⟩ (n := 615) rfl (fun _ _ h => h.elim) (fun v9 ν9 h9 => ?_)
  rw [h9.1, h9.2]
  show zK x g ({ frames := 11, cells := 631, slots := 4125, locals := 220 } : Room) 3 342 2391 615 [some (.ref (za g 0)), some (.int 23), some (.int 100)] [.int ((-1500))] (zOf sR50)
  refine k_sipush S dL_rules_615 (v := (-1500)) (by decide) (n := 618) rfl ?_
  refine k_icmp_ne S dL_rules_618 (tgt := 680) (by decide) (n := 621) rfl (fun h9 => absurd (by decide) h9) (fun _ => ?_)
  refine k_aload0 S dL_rules_621 (n := 622) rfl ?_
  refine k_bipush S dL_rules_622 (v := 28) (by decide) (n := 624) rfl ?_
  refine k_callV (As := [.int 28]) (rest := []) (p := 0) S (qR65 hn) mv_X3_phaseOf m_489 dL_rules_624 rfl rfl ⟨by decide, by decide⟩ (zlt S (by decide)) (by decide) (ci := 3) rfl rfl rfl (Nat.le_of_ble_eq_true rfl) ⟨by decide, by decide⟩ (n := 627) rfl (fun _ _ h => h.elim) (fun v9 ν9 h9 => ?_)
  rw [h9.1, h9.2]
  show zK x g ({ frames := 11, cells := 631, slots := 4125, locals := 220 } : Room) 3 343 2397 627 [some (.ref (za g 0)), some (.int 23), some (.int 100)] [.int 1] (zOf sR50)
  refine k_iconst S dL_rules_627 (v := 1) (by decide) (n := 628) rfl ?_
  refine k_icmp_ne S dL_rules_628 (tgt := 680) (by decide) (n := 631) rfl (fun h9 => absurd (by decide) h9) (fun _ => ?_)
  refine k_aload0 S dL_rules_631 (n := 632) rfl ?_
  refine k_bipush S dL_rules_632 (v := 27) (by decide) (n := 634) rfl ?_
  refine k_callV (As := [.int 27]) (rest := []) (p := 0) S (qR66 hn) mv_X3_phaseOf m_489 dL_rules_634 rfl rfl ⟨by decide, by decide⟩ (zlt S (by decide)) (by decide) (ci := 3) rfl rfl rfl (Nat.le_of_ble_eq_true rfl) ⟨by decide, by decide⟩ (n := 637) rfl (fun _ _ h => h.elim) (fun v9 ν9 h9 => ?_)
  rw [h9.1, h9.2]
  show zK x g ({ frames := 11, cells := 631, slots := 4125, locals := 220 } : Room) 3 344 2403 637 [some (.ref (za g 0)), some (.int 23), some (.int 100)] [.int 0] (zOf sR50)
  refine k_if_ne S dL_rules_637 (tgt := 680) (by decide) (n := 640) rfl (fun h9 => absurd (by decide) h9) (fun _ => ?_)
  refine k_aload0 S dL_rules_640 (n := 641) rfl ?_
  refine k_iconst S dL_rules_641 (v := 1) (by decide) (n := 642) rfl ?_
  refine k_callV (As := [.int 1]) (rest := []) (p := 0) S (qR67 hn) mv_X3_center m_497 dL_rules_642 rfl rfl ⟨by decide, by decide⟩ (zlt S (by decide)) (by decide) (ci := 3) rfl rfl rfl (Nat.le_of_ble_eq_true rfl) ⟨by decide, by decide⟩ (n := 645) rfl (fun _ _ h => h.elim) (fun v9 ν9 h9 => ?_)
  rw [h9.1, h9.2]
  show zK x g ({ frames := 11, cells := 631, slots := 4125, locals := 220 } : Room) 3 346 2415 645 [some (.ref (za g 0)), some (.int 23), some (.int 100)] [.int ((-1500))] (zOf sR50)
  refine k_sipush S dL_rules_645 (v := (-1500)) (by decide) (n := 648) rfl ?_
  refine k_icmp_ne S dL_rules_648 (tgt := 680) (by decide) (n := 651) rfl (fun h9 => absurd (by decide) h9) (fun _ => ?_)
  refine k_aload0 S dL_rules_651 (n := 652) rfl ?_
  refine k_iconst S dL_rules_652 (v := 1) (by decide) (n := 653) rfl ?_
  refine k_callV (As := [.int 1]) (rest := []) (p := 0) S (qR68 hn) mv_X3_width m_510 dL_rules_653 rfl rfl ⟨by decide, by decide⟩ (zlt S (by decide)) (by decide) (ci := 3) rfl rfl rfl (Nat.le_of_ble_eq_true rfl) ⟨by decide, by decide⟩ (n := 656) rfl (fun _ _ h => h.elim) (fun v9 ν9 h9 => ?_)
  rw [h9.1, h9.2]
  show zK x g ({ frames := 11, cells := 631, slots := 4125, locals := 220 } : Room) 3 348 2427 656 [some (.ref (za g 0)), some (.int 23), some (.int 100)] [.int 1880] (zOf sR50)
  exact gR9 S hn hend
set_option maxRecDepth 100000 in
set_option maxHeartbeats 4000000 in
theorem gR7 {x : zX} {g : zG} (S : zS x g 3 cL_rules RL) (hn : zn g = 21) (hend : ∀ (ce sl : Nat) (L : List (Option Value)) (μ : zM), ce ≤ 631 → sl ≤ 4125 → zK x g ({ frames := 11, cells := 631, slots := 4125, locals := 220 } : Room) 3 ce sl 937 L [.int 1] μ) : zK x g ({ frames := 11, cells := 631, slots := 4125, locals := 220 } : Room) 3 136 1155 485 [some (.ref (za g 0)), some (.int 23), some (.int 100)] [.int 1] (zOf sR46) := by
  refine k_if_eq S dL_rules_485 (tgt := 507) (by decide) (n := 488) rfl (fun h9 => absurd h9 (by decide)) (fun _ => ?_)
  refine k_aload0 S dL_rules_488 (n := 489) rfl ?_
  refine k_bipush S dL_rules_489 (v := 26) (by decide) (n := 491) rfl ?_
  refine k_iconst S dL_rules_491 (v := 5) (by decide) (n := 492) rfl ?_
  refine k_callV (As := [.int 26, .int 5]) (rest := []) (p := 0) S (qR56 hn) mv_X3_firstOf m_571 dL_rules_492 rfl rfl ⟨by decide, by decide⟩ (zlt S (by decide)) (by decide) (ci := 3) rfl rfl rfl (Nat.le_of_ble_eq_true rfl) ⟨by decide, by decide⟩ (n := 495) rfl (fun _ _ h => h.elim) (fun v9 ν9 h9 => ?_)
  rw [h9.1, h9.2]
  show zK x g ({ frames := 11, cells := 631, slots := 4125, locals := 220 } : Room) 3 138 1167 495 [some (.ref (za g 0)), some (.int 23), some (.int 100)] [.int 24] (zOf sR46)
  refine k_bipush S dL_rules_495 (v := 24) (by decide) (n := 497) rfl ?_
  refine k_icmp_ne S dL_rules_497 (tgt := 507) (by decide) (n := 500) rfl (fun h9 => absurd (by decide) h9) (fun _ => ?_)
  refine k_aload0 S dL_rules_500 (n := 501) rfl ?_
  refine k_callS (As := [.ref (za g 0)]) (rest := []) S (qR57 hn) mv_L_refuses m_344 dL_rules_501 rfl rfl ⟨by decide, by decide⟩ rfl rfl (Nat.le_of_ble_eq_true rfl) ⟨by decide, by decide⟩ (n := 504) rfl (fun _ _ h => h.elim) (fun v9 ν9 h9 => ?_)
  rw [h9.1, h9.2]
  show zK x g ({ frames := 11, cells := 631, slots := 4125, locals := 220 } : Room) 3 330 2319 504 [some (.ref (za g 0)), some (.int 23), some (.int 100)] [.int 1] (zOf sR46)
  refine k_if_ne S dL_rules_504 (tgt := 509) (by decide) (n := 507) rfl (fun _ => ?_) (fun h9 => absurd h9 (by decide))
  refine k_aload0 S dL_rules_509 (n := 510) rfl ?_
  refine k_iconst S dL_rules_510 (v := 1) (by decide) (n := 511) rfl ?_
  refine k_callV (As := [.int 1]) (rest := []) (p := 0) S (qR58 hn) mv_X3_put m_194 dL_rules_511 rfl rfl ⟨by decide, by decide⟩ (zlt S (by decide)) (by decide) (ci := 3) rfl rfl rfl (Nat.le_of_ble_eq_true rfl) ⟨by decide, by decide⟩ (n := 514) rfl (fun _ _ h => h.elim) (fun v9 ν9 h9 => ?_)
  rw [h9.1, h9.2]
  show zK x g ({ frames := 11, cells := 631, slots := 4125, locals := 220 } : Room) 3 331 2325 514 [some (.ref (za g 0)), some (.int 23), some (.int 100)] [.int 0] (zOf sR47)
  refine k_if_ne S dL_rules_514 (tgt := 680) (by decide) (n := 517) rfl (fun h9 => absurd (by decide) h9) (fun _ => ?_)
  refine k_aload0 S dL_rules_517 (n := 518) rfl ?_
  refine k_iconst S dL_rules_518 (v := 1) (by decide) (n := 519) rfl ?_
  refine k_iconst S dL_rules_519 (v := 0) (by decide) (n := 520) rfl ?_
  refine k_iconst S dL_rules_520 (v := 0) (by decide) (n := 521) rfl ?_
  refine k_iconst S dL_rules_521 (v := 0) (by decide) (n := 522) rfl ?_
  refine k_callH (As := [.ref (za g 0), .int 1, .int 0, .int 0, .int 0]) (rest := []) S (x_act1 (Or.inr (Or.inr rfl)) (n_newPhase vR47 (by unfold zNP; decide +kernel))) mv_L_act m_457 dL_rules_522 rfl rfl ⟨by decide, by decide⟩ rfl rfl (Nat.le_of_ble_eq_true rfl) ⟨by decide, by decide⟩ (n := 525) rfl (fun _ _ h => h.elim) (fun v9 ν9 h9 => ?_)
  rw [h9.1, h9.2]
  show zK x g ({ frames := 11, cells := 631, slots := 4125, locals := 220 } : Room) 3 332 2331 525 [some (.ref (za g 0)), some (.int 23), some (.int 100)] [.long ((zcd "java/lang/IllegalStateException"))] (zOf sR47)
  refine k_topl (-99000013) zcd_s ?_
  refine k_ldc2 S dL_rules_525 (v := (-99000013)) m_620 (n := 528) rfl ?_
  refine k_lcmp S dL_rules_528 (n := 529) rfl ?_
  refine k_top 0 (by decide) ?_
  refine k_if_ne S dL_rules_529 (tgt := 680) (by decide) (n := 532) rfl (fun h9 => absurd (by decide) h9) (fun _ => ?_)
  refine k_aload0 S dL_rules_532 (n := 533) rfl ?_
  refine k_iconst S dL_rules_533 (v := 2) (by decide) (n := 534) rfl ?_
  refine k_callV (As := [.int 2]) (rest := []) (p := 0) S (qR59 hn) mv_X3_put m_194 dL_rules_534 rfl rfl ⟨by decide, by decide⟩ (zlt S (by decide)) (by decide) (ci := 3) rfl rfl rfl (Nat.le_of_ble_eq_true rfl) ⟨by decide, by decide⟩ (n := 537) rfl (fun _ _ h => h.elim) (fun v9 ν9 h9 => ?_)
  rw [h9.1, h9.2]
  show zK x g ({ frames := 11, cells := 631, slots := 4125, locals := 220 } : Room) 3 333 2337 537 [some (.ref (za g 0)), some (.int 23), some (.int 100)] [.int 1] (zOf sR48)
  refine k_if_eq S dL_rules_537 (tgt := 680) (by decide) (n := 540) rfl (fun h9 => absurd h9 (by decide)) (fun _ => ?_)
  refine k_aload0 S dL_rules_540 (n := 541) rfl ?_
  refine k_bipush S dL_rules_541 (v := 27) (by decide) (n := 543) rfl ?_
  refine k_callV (As := [.int 27]) (rest := []) (p := 0) S (qR60 hn) mv_X3_mean m_481 dL_rules_543 rfl rfl ⟨by decide, by decide⟩ (zlt S (by decide)) (by decide) (ci := 3) rfl rfl rfl (Nat.le_of_ble_eq_true rfl) ⟨by decide, by decide⟩ (n := 546) rfl (fun _ _ h => h.elim) (fun v9 ν9 h9 => ?_)
  rw [h9.1, h9.2]
  show zK x g ({ frames := 11, cells := 631, slots := 4125, locals := 220 } : Room) 3 334 2343 546 [some (.ref (za g 0)), some (.int 23), some (.int 100)] [.int 1500] (zOf sR48)
  refine k_sipush S dL_rules_546 (v := 1500) (by decide) (n := 549) rfl ?_
  refine k_icmp_ne S dL_rules_549 (tgt := 680) (by decide) (n := 552) rfl (fun h9 => absurd (by decide) h9) (fun _ => ?_)
  refine k_aload0 S dL_rules_552 (n := 553) rfl ?_
  refine k_callV (As := []) (rest := []) (p := 0) S (qR61 hn) mv_X3_newPhase m_460 dL_rules_553 rfl rfl ⟨by decide, by decide⟩ (zlt S (by decide)) (by decide) (ci := 3) rfl rfl rfl (Nat.le_of_ble_eq_true rfl) ⟨by decide, by decide⟩ (n := 556) rfl (fun _ _ h => h.elim) (fun v9 ν9 h9 => ?_)
  rw [h9.1, h9.2]
  show zK x g ({ frames := 11, cells := 631, slots := 4125, locals := 220 } : Room) 3 335 2349 556 [some (.ref (za g 0)), some (.int 23), some (.int 100)] [.int 1] (zOf sR49)
  refine k_iconst S dL_rules_556 (v := 1) (by decide) (n := 557) rfl ?_
  refine k_icmp_ne S dL_rules_557 (tgt := 680) (by decide) (n := 560) rfl (fun h9 => absurd (by decide) h9) (fun _ => ?_)
  refine k_aload0 S dL_rules_560 (n := 561) rfl ?_
  refine k_iconst S dL_rules_561 (v := 1) (by decide) (n := 562) rfl ?_
  refine k_iconst S dL_rules_562 (v := 0) (by decide) (n := 563) rfl ?_
  refine k_iconst S dL_rules_563 (v := 0) (by decide) (n := 564) rfl ?_
  refine k_iconst S dL_rules_564 (v := 0) (by decide) (n := 565) rfl ?_
  refine k_callH (As := [.ref (za g 0), .int 1, .int 0, .int 0, .int 0]) (rest := []) S (x_act1 (Or.inr (Or.inr rfl)) (n_newPhase vR49 (by unfold zNP; decide +kernel))) mv_L_act m_457 dL_rules_565 rfl rfl ⟨by decide, by decide⟩ rfl rfl (Nat.le_of_ble_eq_true rfl) ⟨by decide, by decide⟩ (n := 568) rfl (fun _ _ h => h.elim) (fun v9 ν9 h9 => ?_)
  rw [h9.1, h9.2]
  show zK x g ({ frames := 11, cells := 631, slots := 4125, locals := 220 } : Room) 3 336 2355 568 [some (.ref (za g 0)), some (.int 23), some (.int 100)] [.long ((zcd "java/lang/IllegalStateException"))] (zOf sR49)
  refine k_topl (-99000013) zcd_s ?_
  exact gR8 S hn hend
set_option maxRecDepth 100000 in
set_option maxHeartbeats 4000000 in
theorem gR6 {x : zX} {g : zG} (S : zS x g 3 cL_rules RL) (hn : zn g = 21) (hend : ∀ (ce sl : Nat) (L : List (Option Value)) (μ : zM), ce ≤ 631 → sl ≤ 4125 → zK x g ({ frames := 11, cells := 631, slots := 4125, locals := 220 } : Room) 3 ce sl 937 L [.int 1] μ) : zK x g ({ frames := 11, cells := 631, slots := 4125, locals := 220 } : Room) 3 120 1059 387 [some (.ref (za g 0)), some (.int 23), some (.int 100)] [.int 1] (zOf sR39) := by
  refine k_if_eq S dL_rules_387 (tgt := 507) (by decide) (n := 390) rfl (fun h9 => absurd h9 (by decide)) (fun _ => ?_)
  refine k_aload0 S dL_rules_390 (n := 391) rfl ?_
  refine k_bipush S dL_rules_391 (v := 100) (by decide) (n := 393) rfl ?_
  refine k_bipush S dL_rules_393 (v := 100) (by decide) (n := 395) rfl ?_
  refine k_callS (As := [.ref (za g 0), .int 100, .int 100]) (rest := []) S (qR48 hn) mv_L_two m_624 dL_rules_395 rfl rfl ⟨by decide, by decide⟩ rfl rfl (Nat.le_of_ble_eq_true rfl) ⟨by decide, by decide⟩ (n := 398) rfl (fun _ _ h => h.elim) (fun v9 ν9 h9 => ?_)
  rw [h9.1, h9.2]
  show zK x g ({ frames := 11, cells := 631, slots := 4125, locals := 220 } : Room) 3 122 1071 398 [some (.ref (za g 0)), some (.int 23), some (.int 100)] [.int 1] (zOf sR40)
  refine k_if_eq S dL_rules_398 (tgt := 507) (by decide) (n := 401) rfl (fun h9 => absurd h9 (by decide)) (fun _ => ?_)
  refine k_aload0 S dL_rules_401 (n := 402) rfl ?_
  refine k_sipush S dL_rules_402 (v := 130) (by decide) (n := 405) rfl ?_
  refine k_sipush S dL_rules_405 (v := 130) (by decide) (n := 408) rfl ?_
  refine k_callS (As := [.ref (za g 0), .int 130, .int 130]) (rest := []) S (qR49 hn) mv_L_two m_624 dL_rules_408 rfl rfl ⟨by decide, by decide⟩ rfl rfl (Nat.le_of_ble_eq_true rfl) ⟨by decide, by decide⟩ (n := 411) rfl (fun _ _ h => h.elim) (fun v9 ν9 h9 => ?_)
  rw [h9.1, h9.2]
  show zK x g ({ frames := 11, cells := 631, slots := 4125, locals := 220 } : Room) 3 124 1083 411 [some (.ref (za g 0)), some (.int 23), some (.int 100)] [.int 1] (zOf sR41)
  refine k_if_eq S dL_rules_411 (tgt := 507) (by decide) (n := 414) rfl (fun h9 => absurd h9 (by decide)) (fun _ => ?_)
  refine k_aload0 S dL_rules_414 (n := 415) rfl ?_
  refine k_sipush S dL_rules_415 (v := 130) (by decide) (n := 418) rfl ?_
  refine k_sipush S dL_rules_418 (v := 130) (by decide) (n := 421) rfl ?_
  refine k_callS (As := [.ref (za g 0), .int 130, .int 130]) (rest := []) S (qR50 hn) mv_L_two m_624 dL_rules_421 rfl rfl ⟨by decide, by decide⟩ rfl rfl (Nat.le_of_ble_eq_true rfl) ⟨by decide, by decide⟩ (n := 424) rfl (fun _ _ h => h.elim) (fun v9 ν9 h9 => ?_)
  rw [h9.1, h9.2]
  show zK x g ({ frames := 11, cells := 631, slots := 4125, locals := 220 } : Room) 3 126 1095 424 [some (.ref (za g 0)), some (.int 23), some (.int 100)] [.int 1] (zOf sR42)
  refine k_if_eq S dL_rules_424 (tgt := 507) (by decide) (n := 427) rfl (fun h9 => absurd h9 (by decide)) (fun _ => ?_)
  refine k_aload0 S dL_rules_427 (n := 428) rfl ?_
  refine k_bipush S dL_rules_428 (v := 23) (by decide) (n := 430) rfl ?_
  refine k_sipush S dL_rules_430 (v := 256) (by decide) (n := 433) rfl ?_
  refine k_callS (As := [.ref (za g 0), .int 23, .int 256]) (rest := []) S (qR51 hn) mv_L_breaks m_630 dL_rules_433 rfl rfl ⟨by decide, by decide⟩ rfl rfl (Nat.le_of_ble_eq_true rfl) ⟨by decide, by decide⟩ (n := 436) rfl (fun _ _ h => h.elim) (fun v9 ν9 h9 => ?_)
  rw [h9.1, h9.2]
  show zK x g ({ frames := 11, cells := 631, slots := 4125, locals := 220 } : Room) 3 128 1107 436 [some (.ref (za g 0)), some (.int 23), some (.int 100)] [.int 1] (zOf sR43)
  refine k_if_eq S dL_rules_436 (tgt := 507) (by decide) (n := 439) rfl (fun h9 => absurd h9 (by decide)) (fun _ => ?_)
  refine k_aload0 S dL_rules_439 (n := 440) rfl ?_
  refine k_bipush S dL_rules_440 (v := 24) (by decide) (n := 442) rfl ?_
  refine k_sipush S dL_rules_442 (v := 320) (by decide) (n := 445) rfl ?_
  refine k_callS (As := [.ref (za g 0), .int 24, .int 320]) (rest := []) S (qR52 hn) mv_L_breaks m_630 dL_rules_445 rfl rfl ⟨by decide, by decide⟩ rfl rfl (Nat.le_of_ble_eq_true rfl) ⟨by decide, by decide⟩ (n := 448) rfl (fun _ _ h => h.elim) (fun v9 ν9 h9 => ?_)
  rw [h9.1, h9.2]
  show zK x g ({ frames := 11, cells := 631, slots := 4125, locals := 220 } : Room) 3 130 1119 448 [some (.ref (za g 0)), some (.int 23), some (.int 100)] [.int 1] (zOf sR44)
  refine k_if_eq S dL_rules_448 (tgt := 507) (by decide) (n := 451) rfl (fun h9 => absurd h9 (by decide)) (fun _ => ?_)
  refine k_aload0 S dL_rules_451 (n := 452) rfl ?_
  refine k_bipush S dL_rules_452 (v := 24) (by decide) (n := 454) rfl ?_
  refine k_bipush S dL_rules_454 (v := 6) (by decide) (n := 456) rfl ?_
  refine k_callV (As := [.int 24, .int 6]) (rest := []) (p := 0) S (qR53 hn) mv_X3_firstOf m_571 dL_rules_456 rfl rfl ⟨by decide, by decide⟩ (zlt S (by decide)) (by decide) (ci := 3) rfl rfl rfl (Nat.le_of_ble_eq_true rfl) ⟨by decide, by decide⟩ (n := 459) rfl (fun _ _ h => h.elim) (fun v9 ν9 h9 => ?_)
  rw [h9.1, h9.2]
  show zK x g ({ frames := 11, cells := 631, slots := 4125, locals := 220 } : Room) 3 132 1131 459 [some (.ref (za g 0)), some (.int 23), some (.int 100)] [.int 20] (zOf sR44)
  refine k_bipush S dL_rules_459 (v := 20) (by decide) (n := 461) rfl ?_
  refine k_icmp_ne S dL_rules_461 (tgt := 507) (by decide) (n := 464) rfl (fun h9 => absurd (by decide) h9) (fun _ => ?_)
  refine k_aload0 S dL_rules_464 (n := 465) rfl ?_
  refine k_bipush S dL_rules_465 (v := 25) (by decide) (n := 467) rfl ?_
  refine k_sipush S dL_rules_467 (v := 320) (by decide) (n := 470) rfl ?_
  refine k_callS (As := [.ref (za g 0), .int 25, .int 320]) (rest := []) S (qR54 hn) mv_L_breaks m_630 dL_rules_470 rfl rfl ⟨by decide, by decide⟩ rfl rfl (Nat.le_of_ble_eq_true rfl) ⟨by decide, by decide⟩ (n := 473) rfl (fun _ _ h => h.elim) (fun v9 ν9 h9 => ?_)
  rw [h9.1, h9.2]
  show zK x g ({ frames := 11, cells := 631, slots := 4125, locals := 220 } : Room) 3 134 1143 473 [some (.ref (za g 0)), some (.int 23), some (.int 100)] [.int 1] (zOf sR45)
  refine k_if_eq S dL_rules_473 (tgt := 507) (by decide) (n := 476) rfl (fun h9 => absurd h9 (by decide)) (fun _ => ?_)
  refine k_aload0 S dL_rules_476 (n := 477) rfl ?_
  refine k_bipush S dL_rules_477 (v := 26) (by decide) (n := 479) rfl ?_
  refine k_sipush S dL_rules_479 (v := 352) (by decide) (n := 482) rfl ?_
  refine k_callS (As := [.ref (za g 0), .int 26, .int 352]) (rest := []) S (qR55 hn) mv_L_breaks m_630 dL_rules_482 rfl rfl ⟨by decide, by decide⟩ rfl rfl (Nat.le_of_ble_eq_true rfl) ⟨by decide, by decide⟩ (n := 485) rfl (fun _ _ h => h.elim) (fun v9 ν9 h9 => ?_)
  rw [h9.1, h9.2]
  show zK x g ({ frames := 11, cells := 631, slots := 4125, locals := 220 } : Room) 3 136 1155 485 [some (.ref (za g 0)), some (.int 23), some (.int 100)] [.int 1] (zOf sR46)
  exact gR7 S hn hend
set_option maxRecDepth 100000 in
set_option maxHeartbeats 4000000 in
theorem gR5 {x : zX} {g : zG} (S : zS x g 3 cL_rules RL) (hn : zn g = 21) (hend : ∀ (ce sl : Nat) (L : List (Option Value)) (μ : zM), ce ≤ 631 → sl ≤ 4125 → zK x g ({ frames := 11, cells := 631, slots := 4125, locals := 220 } : Room) 3 ce sl 937 L [.int 1] μ) : zK x g ({ frames := 11, cells := 631, slots := 4125, locals := 220 } : Room) 3 104 963 296 [some (.ref (za g 0)), some (.int 23), some (.int 100)] [.int 1] (zOf sR34) := by
  refine k_if_eq S dL_rules_296 (tgt := 507) (by decide) (n := 299) rfl (fun h9 => absurd h9 (by decide)) (fun _ => ?_)
  refine k_aload0 S dL_rules_299 (n := 300) rfl ?_
  refine k_bipush S dL_rules_300 (v := 14) (by decide) (n := 302) rfl ?_
  refine k_sipush S dL_rules_302 (v := 132) (by decide) (n := 305) rfl ?_
  refine k_callS (As := [.ref (za g 0), .int 14, .int 132]) (rest := []) S (qR40 hn) mv_L_breaks m_630 dL_rules_305 rfl rfl ⟨by decide, by decide⟩ rfl rfl (Nat.le_of_ble_eq_true rfl) ⟨by decide, by decide⟩ (n := 308) rfl (fun _ _ h => h.elim) (fun v9 ν9 h9 => ?_)
  rw [h9.1, h9.2]
  show zK x g ({ frames := 11, cells := 631, slots := 4125, locals := 220 } : Room) 3 106 975 308 [some (.ref (za g 0)), some (.int 23), some (.int 100)] [.int 1] (zOf sR35)
  refine k_if_eq S dL_rules_308 (tgt := 507) (by decide) (n := 311) rfl (fun h9 => absurd h9 (by decide)) (fun _ => ?_)
  refine k_aload0 S dL_rules_311 (n := 312) rfl ?_
  refine k_bipush S dL_rules_312 (v := 14) (by decide) (n := 314) rfl ?_
  refine k_bipush S dL_rules_314 (v := 7) (by decide) (n := 316) rfl ?_
  refine k_callV (As := [.int 14, .int 7]) (rest := []) (p := 0) S (qR41 hn) mv_X3_firstOf m_571 dL_rules_316 rfl rfl ⟨by decide, by decide⟩ (zlt S (by decide)) (by decide) (ci := 3) rfl rfl rfl (Nat.le_of_ble_eq_true rfl) ⟨by decide, by decide⟩ (n := 319) rfl (fun _ _ h => h.elim) (fun v9 ν9 h9 => ?_)
  rw [h9.1, h9.2]
  show zK x g ({ frames := 11, cells := 631, slots := 4125, locals := 220 } : Room) 3 108 987 319 [some (.ref (za g 0)), some (.int 23), some (.int 100)] [.int 0] (zOf sR35)
  refine k_if_ne S dL_rules_319 (tgt := 507) (by decide) (n := 322) rfl (fun h9 => absurd (by decide) h9) (fun _ => ?_)
  refine k_aload0 S dL_rules_322 (n := 323) rfl ?_
  refine k_bipush S dL_rules_323 (v := 15) (by decide) (n := 325) rfl ?_
  refine k_iconst S dL_rules_325 (v := 0) (by decide) (n := 326) rfl ?_
  refine k_callS (As := [.ref (za g 0), .int 15, .int 0]) (rest := []) S (qR42 hn) mv_L_breaks m_630 dL_rules_326 rfl rfl ⟨by decide, by decide⟩ rfl rfl (Nat.le_of_ble_eq_true rfl) ⟨by decide, by decide⟩ (n := 329) rfl (fun _ _ h => h.elim) (fun v9 ν9 h9 => ?_)
  rw [h9.1, h9.2]
  show zK x g ({ frames := 11, cells := 631, slots := 4125, locals := 220 } : Room) 3 110 999 329 [some (.ref (za g 0)), some (.int 23), some (.int 100)] [.int 1] (zOf sR36)
  refine k_if_eq S dL_rules_329 (tgt := 507) (by decide) (n := 332) rfl (fun h9 => absurd h9 (by decide)) (fun _ => ?_)
  refine k_aload0 S dL_rules_332 (n := 333) rfl ?_
  refine k_bipush S dL_rules_333 (v := 21) (by decide) (n := 335) rfl ?_
  refine k_iconst S dL_rules_335 (v := 0) (by decide) (n := 336) rfl ?_
  refine k_callS (As := [.ref (za g 0), .int 21, .int 0]) (rest := []) S (qR43 hn) mv_L_breaks m_630 dL_rules_336 rfl rfl ⟨by decide, by decide⟩ rfl rfl (Nat.le_of_ble_eq_true rfl) ⟨by decide, by decide⟩ (n := 339) rfl (fun _ _ h => h.elim) (fun v9 ν9 h9 => ?_)
  rw [h9.1, h9.2]
  show zK x g ({ frames := 11, cells := 631, slots := 4125, locals := 220 } : Room) 3 112 1011 339 [some (.ref (za g 0)), some (.int 23), some (.int 100)] [.int 1] (zOf sR37)
  refine k_if_eq S dL_rules_339 (tgt := 507) (by decide) (n := 342) rfl (fun h9 => absurd h9 (by decide)) (fun _ => ?_)
  refine k_aload0 S dL_rules_342 (n := 343) rfl ?_
  refine k_bipush S dL_rules_343 (v := 22) (by decide) (n := 345) rfl ?_
  refine k_sipush S dL_rules_345 (v := 272) (by decide) (n := 348) rfl ?_
  refine k_callS (As := [.ref (za g 0), .int 22, .int 272]) (rest := []) S (qR44 hn) mv_L_breaks m_630 dL_rules_348 rfl rfl ⟨by decide, by decide⟩ rfl rfl (Nat.le_of_ble_eq_true rfl) ⟨by decide, by decide⟩ (n := 351) rfl (fun _ _ h => h.elim) (fun v9 ν9 h9 => ?_)
  rw [h9.1, h9.2]
  show zK x g ({ frames := 11, cells := 631, slots := 4125, locals := 220 } : Room) 3 114 1023 351 [some (.ref (za g 0)), some (.int 23), some (.int 100)] [.int 1] (zOf sR38)
  refine k_if_eq S dL_rules_351 (tgt := 507) (by decide) (n := 354) rfl (fun h9 => absurd h9 (by decide)) (fun _ => ?_)
  refine k_aload0 S dL_rules_354 (n := 355) rfl ?_
  refine k_bipush S dL_rules_355 (v := 22) (by decide) (n := 357) rfl ?_
  refine k_bipush S dL_rules_357 (v := 8) (by decide) (n := 359) rfl ?_
  refine k_callV (As := [.int 22, .int 8]) (rest := []) (p := 0) S (qR45 hn) mv_X3_firstOf m_571 dL_rules_359 rfl rfl ⟨by decide, by decide⟩ (zlt S (by decide)) (by decide) (ci := 3) rfl rfl rfl (Nat.le_of_ble_eq_true rfl) ⟨by decide, by decide⟩ (n := 362) rfl (fun _ _ h => h.elim) (fun v9 ν9 h9 => ?_)
  rw [h9.1, h9.2]
  show zK x g ({ frames := 11, cells := 631, slots := 4125, locals := 220 } : Room) 3 116 1035 362 [some (.ref (za g 0)), some (.int 23), some (.int 100)] [.int 15] (zOf sR38)
  refine k_bipush S dL_rules_362 (v := 15) (by decide) (n := 364) rfl ?_
  refine k_icmp_ne S dL_rules_364 (tgt := 507) (by decide) (n := 367) rfl (fun h9 => absurd (by decide) h9) (fun _ => ?_)
  refine k_aload0 S dL_rules_367 (n := 368) rfl ?_
  refine k_bipush S dL_rules_368 (v := 22) (by decide) (n := 370) rfl ?_
  refine k_iconst S dL_rules_370 (v := 4) (by decide) (n := 371) rfl ?_
  refine k_callV (As := [.int 22, .int 4]) (rest := []) (p := 0) S (qR46 hn) mv_X3_firstOf m_571 dL_rules_371 rfl rfl ⟨by decide, by decide⟩ (zlt S (by decide)) (by decide) (ci := 3) rfl rfl rfl (Nat.le_of_ble_eq_true rfl) ⟨by decide, by decide⟩ (n := 374) rfl (fun _ _ h => h.elim) (fun v9 ν9 h9 => ?_)
  rw [h9.1, h9.2]
  show zK x g ({ frames := 11, cells := 631, slots := 4125, locals := 220 } : Room) 3 118 1047 374 [some (.ref (za g 0)), some (.int 23), some (.int 100)] [.int 9] (zOf sR38)
  refine k_bipush S dL_rules_374 (v := 9) (by decide) (n := 376) rfl ?_
  refine k_icmp_ne S dL_rules_376 (tgt := 507) (by decide) (n := 379) rfl (fun h9 => absurd (by decide) h9) (fun _ => ?_)
  refine k_aload0 S dL_rules_379 (n := 380) rfl ?_
  refine k_bipush S dL_rules_380 (v := 100) (by decide) (n := 382) rfl ?_
  refine k_bipush S dL_rules_382 (v := 100) (by decide) (n := 384) rfl ?_
  refine k_callS (As := [.ref (za g 0), .int 100, .int 100]) (rest := []) S (qR47 hn) mv_L_two m_624 dL_rules_384 rfl rfl ⟨by decide, by decide⟩ rfl rfl (Nat.le_of_ble_eq_true rfl) ⟨by decide, by decide⟩ (n := 387) rfl (fun _ _ h => h.elim) (fun v9 ν9 h9 => ?_)
  rw [h9.1, h9.2]
  show zK x g ({ frames := 11, cells := 631, slots := 4125, locals := 220 } : Room) 3 120 1059 387 [some (.ref (za g 0)), some (.int 23), some (.int 100)] [.int 1] (zOf sR39)
  exact gR6 S hn hend
set_option maxRecDepth 100000 in
set_option maxHeartbeats 4000000 in
theorem gR4 {x : zX} {g : zG} (S : zS x g 3 cL_rules RL) (hn : zn g = 21) (hend : ∀ (ce sl : Nat) (L : List (Option Value)) (μ : zM), ce ≤ 631 → sl ≤ 4125 → zK x g ({ frames := 11, cells := 631, slots := 4125, locals := 220 } : Room) 3 ce sl 937 L [.int 1] μ) : zK x g ({ frames := 11, cells := 631, slots := 4125, locals := 220 } : Room) 3 88 867 278 [some (.ref (za g 0)), some (.int 15), some (.int ((-100)))] [.int 1] (zOf sR26) := by
  refine k_if_ne S dL_rules_278 (tgt := 283) (by decide) (n := 281) rfl (fun _ => ?_) (fun h9 => absurd h9 (by decide))
  refine k_iinc1 S dL_rules_283 (v := 16) (by decide) (by decide) (n := 286) rfl ?_
  refine k_goto S dL_rules_286 (tgt := 229) (by decide) ?_
  refine k_iload1 S dL_rules_229 (n := 230) rfl ?_
  refine k_bipush S dL_rules_230 (v := 23) (by decide) (n := 232) rfl ?_
  refine k_icmp_ge S dL_rules_232 (tgt := 289) (by decide) (n := 235) rfl (fun h9 => absurd h9 (by decide)) (fun _ => ?_)
  refine k_iload1 S dL_rules_235 (n := 236) rfl ?_
  refine k_bipush S dL_rules_236 (v := 15) (by decide) (n := 238) rfl ?_
  refine k_icmp_ge S dL_rules_238 (tgt := 257) (by decide) (n := 241) rfl (fun _ => ?_) (fun h9 => absurd (by decide) h9)
  refine k_iload1 S dL_rules_257 (n := 258) rfl ?_
  refine k_iconst S dL_rules_258 (v := 2) (by decide) (n := 259) rfl ?_
  refine k_irem S dL_rules_259 (by decide) (n := 260) rfl ?_
  refine k_top 0 (by decide) ?_
  refine k_iconst S dL_rules_260 (v := 1) (by decide) (n := 261) rfl ?_
  refine k_icmp_ne S dL_rules_261 (tgt := 269) (by decide) (n := 264) rfl (fun _ => ?_) (fun h9 => absurd h9 (by decide))
  refine k_bipush S dL_rules_269 (v := 100) (by decide) (n := 271) rfl ?_
  refine k_istore2 S dL_rules_271 (by decide) rfl (n := 272) rfl ?_
  refine k_aload0 S dL_rules_272 (n := 273) rfl ?_
  refine k_iload2 S dL_rules_273 (n := 274) rfl ?_
  refine k_iload2 S dL_rules_274 (n := 275) rfl ?_
  refine k_callS (As := [.ref (za g 0), .int 100, .int 100]) (rest := []) S (qR32 hn) mv_L_two m_624 dL_rules_275 rfl rfl ⟨by decide, by decide⟩ rfl rfl (Nat.le_of_ble_eq_true rfl) ⟨by decide, by decide⟩ (n := 278) rfl (fun _ _ h => h.elim) (fun v9 ν9 h9 => ?_)
  rw [h9.1, h9.2]
  show zK x g ({ frames := 11, cells := 631, slots := 4125, locals := 220 } : Room) 3 90 879 278 [some (.ref (za g 0)), some (.int 16), some (.int 100)] [.int 1] (zOf sR27)
  refine k_if_ne S dL_rules_278 (tgt := 283) (by decide) (n := 281) rfl (fun _ => ?_) (fun h9 => absurd h9 (by decide))
  refine k_iinc1 S dL_rules_283 (v := 17) (by decide) (by decide) (n := 286) rfl ?_
  refine k_goto S dL_rules_286 (tgt := 229) (by decide) ?_
  refine k_iload1 S dL_rules_229 (n := 230) rfl ?_
  refine k_bipush S dL_rules_230 (v := 23) (by decide) (n := 232) rfl ?_
  refine k_icmp_ge S dL_rules_232 (tgt := 289) (by decide) (n := 235) rfl (fun h9 => absurd h9 (by decide)) (fun _ => ?_)
  refine k_iload1 S dL_rules_235 (n := 236) rfl ?_
  refine k_bipush S dL_rules_236 (v := 15) (by decide) (n := 238) rfl ?_
  refine k_icmp_ge S dL_rules_238 (tgt := 257) (by decide) (n := 241) rfl (fun _ => ?_) (fun h9 => absurd (by decide) h9)
  refine k_iload1 S dL_rules_257 (n := 258) rfl ?_
  refine k_iconst S dL_rules_258 (v := 2) (by decide) (n := 259) rfl ?_
  refine k_irem S dL_rules_259 (by decide) (n := 260) rfl ?_
  refine k_top 1 (by decide) ?_
  refine k_iconst S dL_rules_260 (v := 1) (by decide) (n := 261) rfl ?_
  refine k_icmp_ne S dL_rules_261 (tgt := 269) (by decide) (n := 264) rfl (fun h9 => absurd (by decide) h9) (fun _ => ?_)
  refine k_bipush S dL_rules_264 (v := (-100)) (by decide) (n := 266) rfl ?_
  refine k_goto S dL_rules_266 (tgt := 271) (by decide) ?_
  refine k_istore2 S dL_rules_271 (by decide) rfl (n := 272) rfl ?_
  refine k_aload0 S dL_rules_272 (n := 273) rfl ?_
  refine k_iload2 S dL_rules_273 (n := 274) rfl ?_
  refine k_iload2 S dL_rules_274 (n := 275) rfl ?_
  refine k_callS (As := [.ref (za g 0), .int ((-100)), .int ((-100))]) (rest := []) S (qR33 hn) mv_L_two m_624 dL_rules_275 rfl rfl ⟨by decide, by decide⟩ rfl rfl (Nat.le_of_ble_eq_true rfl) ⟨by decide, by decide⟩ (n := 278) rfl (fun _ _ h => h.elim) (fun v9 ν9 h9 => ?_)
  rw [h9.1, h9.2]
  show zK x g ({ frames := 11, cells := 631, slots := 4125, locals := 220 } : Room) 3 92 891 278 [some (.ref (za g 0)), some (.int 17), some (.int ((-100)))] [.int 1] (zOf sR28)
  refine k_if_ne S dL_rules_278 (tgt := 283) (by decide) (n := 281) rfl (fun _ => ?_) (fun h9 => absurd h9 (by decide))
  refine k_iinc1 S dL_rules_283 (v := 18) (by decide) (by decide) (n := 286) rfl ?_
  refine k_goto S dL_rules_286 (tgt := 229) (by decide) ?_
  refine k_iload1 S dL_rules_229 (n := 230) rfl ?_
  refine k_bipush S dL_rules_230 (v := 23) (by decide) (n := 232) rfl ?_
  refine k_icmp_ge S dL_rules_232 (tgt := 289) (by decide) (n := 235) rfl (fun h9 => absurd h9 (by decide)) (fun _ => ?_)
  refine k_iload1 S dL_rules_235 (n := 236) rfl ?_
  refine k_bipush S dL_rules_236 (v := 15) (by decide) (n := 238) rfl ?_
  refine k_icmp_ge S dL_rules_238 (tgt := 257) (by decide) (n := 241) rfl (fun _ => ?_) (fun h9 => absurd (by decide) h9)
  refine k_iload1 S dL_rules_257 (n := 258) rfl ?_
  refine k_iconst S dL_rules_258 (v := 2) (by decide) (n := 259) rfl ?_
  refine k_irem S dL_rules_259 (by decide) (n := 260) rfl ?_
  refine k_top 0 (by decide) ?_
  refine k_iconst S dL_rules_260 (v := 1) (by decide) (n := 261) rfl ?_
  refine k_icmp_ne S dL_rules_261 (tgt := 269) (by decide) (n := 264) rfl (fun _ => ?_) (fun h9 => absurd h9 (by decide))
  refine k_bipush S dL_rules_269 (v := 100) (by decide) (n := 271) rfl ?_
  refine k_istore2 S dL_rules_271 (by decide) rfl (n := 272) rfl ?_
  refine k_aload0 S dL_rules_272 (n := 273) rfl ?_
  refine k_iload2 S dL_rules_273 (n := 274) rfl ?_
  refine k_iload2 S dL_rules_274 (n := 275) rfl ?_
  refine k_callS (As := [.ref (za g 0), .int 100, .int 100]) (rest := []) S (qR34 hn) mv_L_two m_624 dL_rules_275 rfl rfl ⟨by decide, by decide⟩ rfl rfl (Nat.le_of_ble_eq_true rfl) ⟨by decide, by decide⟩ (n := 278) rfl (fun _ _ h => h.elim) (fun v9 ν9 h9 => ?_)
  rw [h9.1, h9.2]
  show zK x g ({ frames := 11, cells := 631, slots := 4125, locals := 220 } : Room) 3 94 903 278 [some (.ref (za g 0)), some (.int 18), some (.int 100)] [.int 1] (zOf sR29)
  refine k_if_ne S dL_rules_278 (tgt := 283) (by decide) (n := 281) rfl (fun _ => ?_) (fun h9 => absurd h9 (by decide))
  refine k_iinc1 S dL_rules_283 (v := 19) (by decide) (by decide) (n := 286) rfl ?_
  refine k_goto S dL_rules_286 (tgt := 229) (by decide) ?_
  refine k_iload1 S dL_rules_229 (n := 230) rfl ?_
  refine k_bipush S dL_rules_230 (v := 23) (by decide) (n := 232) rfl ?_
  refine k_icmp_ge S dL_rules_232 (tgt := 289) (by decide) (n := 235) rfl (fun h9 => absurd h9 (by decide)) (fun _ => ?_)
  refine k_iload1 S dL_rules_235 (n := 236) rfl ?_
  refine k_bipush S dL_rules_236 (v := 15) (by decide) (n := 238) rfl ?_
  refine k_icmp_ge S dL_rules_238 (tgt := 257) (by decide) (n := 241) rfl (fun _ => ?_) (fun h9 => absurd (by decide) h9)
  refine k_iload1 S dL_rules_257 (n := 258) rfl ?_
  refine k_iconst S dL_rules_258 (v := 2) (by decide) (n := 259) rfl ?_
  refine k_irem S dL_rules_259 (by decide) (n := 260) rfl ?_
  refine k_top 1 (by decide) ?_
  refine k_iconst S dL_rules_260 (v := 1) (by decide) (n := 261) rfl ?_
  refine k_icmp_ne S dL_rules_261 (tgt := 269) (by decide) (n := 264) rfl (fun h9 => absurd (by decide) h9) (fun _ => ?_)
  refine k_bipush S dL_rules_264 (v := (-100)) (by decide) (n := 266) rfl ?_
  refine k_goto S dL_rules_266 (tgt := 271) (by decide) ?_
  refine k_istore2 S dL_rules_271 (by decide) rfl (n := 272) rfl ?_
  refine k_aload0 S dL_rules_272 (n := 273) rfl ?_
  refine k_iload2 S dL_rules_273 (n := 274) rfl ?_
  refine k_iload2 S dL_rules_274 (n := 275) rfl ?_
  refine k_callS (As := [.ref (za g 0), .int ((-100)), .int ((-100))]) (rest := []) S (qR35 hn) mv_L_two m_624 dL_rules_275 rfl rfl ⟨by decide, by decide⟩ rfl rfl (Nat.le_of_ble_eq_true rfl) ⟨by decide, by decide⟩ (n := 278) rfl (fun _ _ h => h.elim) (fun v9 ν9 h9 => ?_)
  rw [h9.1, h9.2]
  show zK x g ({ frames := 11, cells := 631, slots := 4125, locals := 220 } : Room) 3 96 915 278 [some (.ref (za g 0)), some (.int 19), some (.int ((-100)))] [.int 1] (zOf sR30)
  refine k_if_ne S dL_rules_278 (tgt := 283) (by decide) (n := 281) rfl (fun _ => ?_) (fun h9 => absurd h9 (by decide))
  refine k_iinc1 S dL_rules_283 (v := 20) (by decide) (by decide) (n := 286) rfl ?_
  refine k_goto S dL_rules_286 (tgt := 229) (by decide) ?_
  refine k_iload1 S dL_rules_229 (n := 230) rfl ?_
  refine k_bipush S dL_rules_230 (v := 23) (by decide) (n := 232) rfl ?_
  refine k_icmp_ge S dL_rules_232 (tgt := 289) (by decide) (n := 235) rfl (fun h9 => absurd h9 (by decide)) (fun _ => ?_)
  refine k_iload1 S dL_rules_235 (n := 236) rfl ?_
  refine k_bipush S dL_rules_236 (v := 15) (by decide) (n := 238) rfl ?_
  refine k_icmp_ge S dL_rules_238 (tgt := 257) (by decide) (n := 241) rfl (fun _ => ?_) (fun h9 => absurd (by decide) h9)
  refine k_iload1 S dL_rules_257 (n := 258) rfl ?_
  refine k_iconst S dL_rules_258 (v := 2) (by decide) (n := 259) rfl ?_
  refine k_irem S dL_rules_259 (by decide) (n := 260) rfl ?_
  refine k_top 0 (by decide) ?_
  refine k_iconst S dL_rules_260 (v := 1) (by decide) (n := 261) rfl ?_
  refine k_icmp_ne S dL_rules_261 (tgt := 269) (by decide) (n := 264) rfl (fun _ => ?_) (fun h9 => absurd h9 (by decide))
  refine k_bipush S dL_rules_269 (v := 100) (by decide) (n := 271) rfl ?_
  refine k_istore2 S dL_rules_271 (by decide) rfl (n := 272) rfl ?_
  refine k_aload0 S dL_rules_272 (n := 273) rfl ?_
  refine k_iload2 S dL_rules_273 (n := 274) rfl ?_
  refine k_iload2 S dL_rules_274 (n := 275) rfl ?_
  refine k_callS (As := [.ref (za g 0), .int 100, .int 100]) (rest := []) S (qR36 hn) mv_L_two m_624 dL_rules_275 rfl rfl ⟨by decide, by decide⟩ rfl rfl (Nat.le_of_ble_eq_true rfl) ⟨by decide, by decide⟩ (n := 278) rfl (fun _ _ h => h.elim) (fun v9 ν9 h9 => ?_)
  rw [h9.1, h9.2]
  show zK x g ({ frames := 11, cells := 631, slots := 4125, locals := 220 } : Room) 3 98 927 278 [some (.ref (za g 0)), some (.int 20), some (.int 100)] [.int 1] (zOf sR31)
  refine k_if_ne S dL_rules_278 (tgt := 283) (by decide) (n := 281) rfl (fun _ => ?_) (fun h9 => absurd h9 (by decide))
  refine k_iinc1 S dL_rules_283 (v := 21) (by decide) (by decide) (n := 286) rfl ?_
  refine k_goto S dL_rules_286 (tgt := 229) (by decide) ?_
  refine k_iload1 S dL_rules_229 (n := 230) rfl ?_
  refine k_bipush S dL_rules_230 (v := 23) (by decide) (n := 232) rfl ?_
  refine k_icmp_ge S dL_rules_232 (tgt := 289) (by decide) (n := 235) rfl (fun h9 => absurd h9 (by decide)) (fun _ => ?_)
  refine k_iload1 S dL_rules_235 (n := 236) rfl ?_
  refine k_bipush S dL_rules_236 (v := 15) (by decide) (n := 238) rfl ?_
  refine k_icmp_ge S dL_rules_238 (tgt := 257) (by decide) (n := 241) rfl (fun _ => ?_) (fun h9 => absurd (by decide) h9)
  refine k_iload1 S dL_rules_257 (n := 258) rfl ?_
  refine k_iconst S dL_rules_258 (v := 2) (by decide) (n := 259) rfl ?_
  refine k_irem S dL_rules_259 (by decide) (n := 260) rfl ?_
  refine k_top 1 (by decide) ?_
  refine k_iconst S dL_rules_260 (v := 1) (by decide) (n := 261) rfl ?_
  refine k_icmp_ne S dL_rules_261 (tgt := 269) (by decide) (n := 264) rfl (fun h9 => absurd (by decide) h9) (fun _ => ?_)
  refine k_bipush S dL_rules_264 (v := (-100)) (by decide) (n := 266) rfl ?_
  refine k_goto S dL_rules_266 (tgt := 271) (by decide) ?_
  refine k_istore2 S dL_rules_271 (by decide) rfl (n := 272) rfl ?_
  refine k_aload0 S dL_rules_272 (n := 273) rfl ?_
  refine k_iload2 S dL_rules_273 (n := 274) rfl ?_
  refine k_iload2 S dL_rules_274 (n := 275) rfl ?_
  refine k_callS (As := [.ref (za g 0), .int ((-100)), .int ((-100))]) (rest := []) S (qR37 hn) mv_L_two m_624 dL_rules_275 rfl rfl ⟨by decide, by decide⟩ rfl rfl (Nat.le_of_ble_eq_true rfl) ⟨by decide, by decide⟩ (n := 278) rfl (fun _ _ h => h.elim) (fun v9 ν9 h9 => ?_)
  rw [h9.1, h9.2]
  show zK x g ({ frames := 11, cells := 631, slots := 4125, locals := 220 } : Room) 3 100 939 278 [some (.ref (za g 0)), some (.int 21), some (.int ((-100)))] [.int 1] (zOf sR32)
  refine k_if_ne S dL_rules_278 (tgt := 283) (by decide) (n := 281) rfl (fun _ => ?_) (fun h9 => absurd h9 (by decide))
  refine k_iinc1 S dL_rules_283 (v := 22) (by decide) (by decide) (n := 286) rfl ?_
  refine k_goto S dL_rules_286 (tgt := 229) (by decide) ?_
  refine k_iload1 S dL_rules_229 (n := 230) rfl ?_
  refine k_bipush S dL_rules_230 (v := 23) (by decide) (n := 232) rfl ?_
  refine k_icmp_ge S dL_rules_232 (tgt := 289) (by decide) (n := 235) rfl (fun h9 => absurd h9 (by decide)) (fun _ => ?_)
  refine k_iload1 S dL_rules_235 (n := 236) rfl ?_
  refine k_bipush S dL_rules_236 (v := 15) (by decide) (n := 238) rfl ?_
  refine k_icmp_ge S dL_rules_238 (tgt := 257) (by decide) (n := 241) rfl (fun _ => ?_) (fun h9 => absurd (by decide) h9)
  refine k_iload1 S dL_rules_257 (n := 258) rfl ?_
  refine k_iconst S dL_rules_258 (v := 2) (by decide) (n := 259) rfl ?_
  refine k_irem S dL_rules_259 (by decide) (n := 260) rfl ?_
  refine k_top 0 (by decide) ?_
  refine k_iconst S dL_rules_260 (v := 1) (by decide) (n := 261) rfl ?_
  refine k_icmp_ne S dL_rules_261 (tgt := 269) (by decide) (n := 264) rfl (fun _ => ?_) (fun h9 => absurd h9 (by decide))
  refine k_bipush S dL_rules_269 (v := 100) (by decide) (n := 271) rfl ?_
  refine k_istore2 S dL_rules_271 (by decide) rfl (n := 272) rfl ?_
  refine k_aload0 S dL_rules_272 (n := 273) rfl ?_
  refine k_iload2 S dL_rules_273 (n := 274) rfl ?_
  refine k_iload2 S dL_rules_274 (n := 275) rfl ?_
  refine k_callS (As := [.ref (za g 0), .int 100, .int 100]) (rest := []) S (qR38 hn) mv_L_two m_624 dL_rules_275 rfl rfl ⟨by decide, by decide⟩ rfl rfl (Nat.le_of_ble_eq_true rfl) ⟨by decide, by decide⟩ (n := 278) rfl (fun _ _ h => h.elim) (fun v9 ν9 h9 => ?_)
  rw [h9.1, h9.2]
  show zK x g ({ frames := 11, cells := 631, slots := 4125, locals := 220 } : Room) 3 102 951 278 [some (.ref (za g 0)), some (.int 22), some (.int 100)] [.int 1] (zOf sR33)
  refine k_if_ne S dL_rules_278 (tgt := 283) (by decide) (n := 281) rfl (fun _ => ?_) (fun h9 => absurd h9 (by decide))
  refine k_iinc1 S dL_rules_283 (v := 23) (by decide) (by decide) (n := 286) rfl ?_
  refine k_goto S dL_rules_286 (tgt := 229) (by decide) ?_
  refine k_iload1 S dL_rules_229 (n := 230) rfl ?_
  refine k_bipush S dL_rules_230 (v := 23) (by decide) (n := 232) rfl ?_
  refine k_icmp_ge S dL_rules_232 (tgt := 289) (by decide) (n := 235) rfl (fun _ => ?_) (fun h9 => absurd (by decide) h9)
  refine k_aload0 S dL_rules_289 (n := 290) rfl ?_
  refine k_bipush S dL_rules_290 (v := 13) (by decide) (n := 292) rfl ?_
  refine k_iconst S dL_rules_292 (v := 4) (by decide) (n := 293) rfl ?_
  refine k_callS (As := [.ref (za g 0), .int 13, .int 4]) (rest := []) S (qR39 hn) mv_L_breaks m_630 dL_rules_293 rfl rfl ⟨by decide, by decide⟩ rfl rfl (Nat.le_of_ble_eq_true rfl) ⟨by decide, by decide⟩ (n := 296) rfl (fun _ _ h => h.elim) (fun v9 ν9 h9 => ?_)
  rw [h9.1, h9.2]
  show zK x g ({ frames := 11, cells := 631, slots := 4125, locals := 220 } : Room) 3 104 963 296 [some (.ref (za g 0)), some (.int 23), some (.int 100)] [.int 1] (zOf sR34)
  exact gR5 S hn hend
set_option maxRecDepth 100000 in
set_option maxHeartbeats 4000000 in
theorem gR3 {x : zX} {g : zG} (S : zS x g 3 cL_rules RL) (hn : zn g = 21) (hend : ∀ (ce sl : Nat) (L : List (Option Value)) (μ : zM), ce ≤ 631 → sl ≤ 4125 → zK x g ({ frames := 11, cells := 631, slots := 4125, locals := 220 } : Room) 3 ce sl 937 L [.int 1] μ) : zK x g ({ frames := 11, cells := 631, slots := 4125, locals := 220 } : Room) 3 72 771 188 [some (.ref (za g 0)), some (.int 10), none] [.int 1] (zOf sR20) := by
  refine k_if_eq S dL_rules_188 (tgt := 224) (by decide) (n := 191) rfl (fun h9 => absurd h9 (by decide)) (fun _ => ?_)
  refine k_aload0 S dL_rules_191 (n := 192) rfl ?_
  refine k_bipush S dL_rules_192 (v := 10) (by decide) (n := 194) rfl ?_
  refine k_iconst S dL_rules_194 (v := 3) (by decide) (n := 195) rfl ?_
  refine k_callV (As := [.int 10, .int 3]) (rest := []) (p := 0) S (qR24 hn) mv_X3_firstOf m_571 dL_rules_195 rfl rfl ⟨by decide, by decide⟩ (zlt S (by decide)) (by decide) (ci := 3) rfl rfl rfl (Nat.le_of_ble_eq_true rfl) ⟨by decide, by decide⟩ (n := 198) rfl (fun _ _ h => h.elim) (fun v9 ν9 h9 => ?_)
  rw [h9.1, h9.2]
  show zK x g ({ frames := 11, cells := 631, slots := 4125, locals := 220 } : Room) 3 74 783 198 [some (.ref (za g 0)), some (.int 10), none] [.int 4] (zOf sR20)
  refine k_iconst S dL_rules_198 (v := 4) (by decide) (n := 199) rfl ?_
  refine k_icmp_ne S dL_rules_199 (tgt := 224) (by decide) (n := 202) rfl (fun h9 => absurd (by decide) h9) (fun _ => ?_)
  refine k_aload0 S dL_rules_202 (n := 203) rfl ?_
  refine k_bipush S dL_rules_203 (v := 6) (by decide) (n := 205) rfl ?_
  refine k_iconst S dL_rules_205 (v := 0) (by decide) (n := 206) rfl ?_
  refine k_callV (As := [.int 6, .int 0]) (rest := []) (p := 0) S (qR25 hn) mv_X3_exclude m_471 dL_rules_206 rfl rfl ⟨by decide, by decide⟩ (zlt S (by decide)) (by decide) (ci := 3) rfl rfl rfl (Nat.le_of_ble_eq_true rfl) ⟨by decide, by decide⟩ (n := 209) rfl (fun _ _ h => h.elim) (fun v9 ν9 h9 => ?_)
  rw [h9.1, h9.2]
  show zK x g ({ frames := 11, cells := 631, slots := 4125, locals := 220 } : Room) 3 76 795 209 [some (.ref (za g 0)), some (.int 10), none] [.int 3] (zOf sR21)
  refine k_iconst S dL_rules_209 (v := 3) (by decide) (n := 210) rfl ?_
  refine k_icmp_ne S dL_rules_210 (tgt := 224) (by decide) (n := 213) rfl (fun h9 => absurd (by decide) h9) (fun _ => ?_)
  refine k_aload0 S dL_rules_213 (n := 214) rfl ?_
  refine k_bipush S dL_rules_214 (v := 10) (by decide) (n := 216) rfl ?_
  refine k_bipush S dL_rules_216 (v := 12) (by decide) (n := 218) rfl ?_
  refine k_callS (As := [.ref (za g 0), .int 10, .int 12]) (rest := []) S (qR26 hn) mv_L_breaks m_630 dL_rules_218 rfl rfl ⟨by decide, by decide⟩ rfl rfl (Nat.le_of_ble_eq_true rfl) ⟨by decide, by decide⟩ (n := 221) rfl (fun _ _ h => h.elim) (fun v9 ν9 h9 => ?_)
  rw [h9.1, h9.2]
  show zK x g ({ frames := 11, cells := 631, slots := 4125, locals := 220 } : Room) 3 78 807 221 [some (.ref (za g 0)), some (.int 10), none] [.int 1] (zOf sR17)
  refine k_if_ne S dL_rules_221 (tgt := 226) (by decide) (n := 224) rfl (fun _ => ?_) (fun h9 => absurd h9 (by decide))
  refine k_bipush S dL_rules_226 (v := 11) (by decide) (n := 228) rfl ?_
  refine k_istore1 S dL_rules_228 (by decide) rfl (n := 229) rfl ?_
  refine k_iload1 S dL_rules_229 (n := 230) rfl ?_
  refine k_bipush S dL_rules_230 (v := 23) (by decide) (n := 232) rfl ?_
  refine k_icmp_ge S dL_rules_232 (tgt := 289) (by decide) (n := 235) rfl (fun h9 => absurd h9 (by decide)) (fun _ => ?_)
  refine k_iload1 S dL_rules_235 (n := 236) rfl ?_
  refine k_bipush S dL_rules_236 (v := 15) (by decide) (n := 238) rfl ?_
  refine k_icmp_ge S dL_rules_238 (tgt := 257) (by decide) (n := 241) rfl (fun h9 => absurd h9 (by decide)) (fun _ => ?_)
  refine k_iload1 S dL_rules_241 (n := 242) rfl ?_
  refine k_iconst S dL_rules_242 (v := 2) (by decide) (n := 243) rfl ?_
  refine k_irem S dL_rules_243 (by decide) (n := 244) rfl ?_
  refine k_top 1 (by decide) ?_
  refine k_iconst S dL_rules_244 (v := 1) (by decide) (n := 245) rfl ?_
  refine k_icmp_ne S dL_rules_245 (tgt := 252) (by decide) (n := 248) rfl (fun h9 => absurd (by decide) h9) (fun _ => ?_)
  refine k_iconst S dL_rules_248 (v := 5) (by decide) (n := 249) rfl ?_
  refine k_goto S dL_rules_249 (tgt := 271) (by decide) ?_
  refine k_istore2 S dL_rules_271 (by decide) rfl (n := 272) rfl ?_
  refine k_aload0 S dL_rules_272 (n := 273) rfl ?_
  refine k_iload2 S dL_rules_273 (n := 274) rfl ?_
  refine k_iload2 S dL_rules_274 (n := 275) rfl ?_
  refine k_callS (As := [.ref (za g 0), .int 5, .int 5]) (rest := []) S (qR27 hn) mv_L_two m_624 dL_rules_275 rfl rfl ⟨by decide, by decide⟩ rfl rfl (Nat.le_of_ble_eq_true rfl) ⟨by decide, by decide⟩ (n := 278) rfl (fun _ _ h => h.elim) (fun v9 ν9 h9 => ?_)
  rw [h9.1, h9.2]
  show zK x g ({ frames := 11, cells := 631, slots := 4125, locals := 220 } : Room) 3 80 819 278 [some (.ref (za g 0)), some (.int 11), some (.int 5)] [.int 1] (zOf sR22)
  refine k_if_ne S dL_rules_278 (tgt := 283) (by decide) (n := 281) rfl (fun _ => ?_) (fun h9 => absurd h9 (by decide))
  refine k_iinc1 S dL_rules_283 (v := 12) (by decide) (by decide) (n := 286) rfl ?_
  refine k_goto S dL_rules_286 (tgt := 229) (by decide) ?_
  refine k_iload1 S dL_rules_229 (n := 230) rfl ?_
  refine k_bipush S dL_rules_230 (v := 23) (by decide) (n := 232) rfl ?_
  refine k_icmp_ge S dL_rules_232 (tgt := 289) (by decide) (n := 235) rfl (fun h9 => absurd h9 (by decide)) (fun _ => ?_)
  refine k_iload1 S dL_rules_235 (n := 236) rfl ?_
  refine k_bipush S dL_rules_236 (v := 15) (by decide) (n := 238) rfl ?_
  refine k_icmp_ge S dL_rules_238 (tgt := 257) (by decide) (n := 241) rfl (fun h9 => absurd h9 (by decide)) (fun _ => ?_)
  refine k_iload1 S dL_rules_241 (n := 242) rfl ?_
  refine k_iconst S dL_rules_242 (v := 2) (by decide) (n := 243) rfl ?_
  refine k_irem S dL_rules_243 (by decide) (n := 244) rfl ?_
  refine k_top 0 (by decide) ?_
  refine k_iconst S dL_rules_244 (v := 1) (by decide) (n := 245) rfl ?_
  refine k_icmp_ne S dL_rules_245 (tgt := 252) (by decide) (n := 248) rfl (fun _ => ?_) (fun h9 => absurd h9 (by decide))
  refine k_bipush S dL_rules_252 (v := 9) (by decide) (n := 254) rfl ?_
  refine k_goto S dL_rules_254 (tgt := 271) (by decide) ?_
  refine k_istore2 S dL_rules_271 (by decide) rfl (n := 272) rfl ?_
  refine k_aload0 S dL_rules_272 (n := 273) rfl ?_
  refine k_iload2 S dL_rules_273 (n := 274) rfl ?_
  refine k_iload2 S dL_rules_274 (n := 275) rfl ?_
  refine k_callS (As := [.ref (za g 0), .int 9, .int 9]) (rest := []) S (qR28 hn) mv_L_two m_624 dL_rules_275 rfl rfl ⟨by decide, by decide⟩ rfl rfl (Nat.le_of_ble_eq_true rfl) ⟨by decide, by decide⟩ (n := 278) rfl (fun _ _ h => h.elim) (fun v9 ν9 h9 => ?_)
  rw [h9.1, h9.2]
  show zK x g ({ frames := 11, cells := 631, slots := 4125, locals := 220 } : Room) 3 82 831 278 [some (.ref (za g 0)), some (.int 12), some (.int 9)] [.int 1] (zOf sR23)
  refine k_if_ne S dL_rules_278 (tgt := 283) (by decide) (n := 281) rfl (fun _ => ?_) (fun h9 => absurd h9 (by decide))
  refine k_iinc1 S dL_rules_283 (v := 13) (by decide) (by decide) (n := 286) rfl ?_
  refine k_goto S dL_rules_286 (tgt := 229) (by decide) ?_
  refine k_iload1 S dL_rules_229 (n := 230) rfl ?_
  refine k_bipush S dL_rules_230 (v := 23) (by decide) (n := 232) rfl ?_
  refine k_icmp_ge S dL_rules_232 (tgt := 289) (by decide) (n := 235) rfl (fun h9 => absurd h9 (by decide)) (fun _ => ?_)
  refine k_iload1 S dL_rules_235 (n := 236) rfl ?_
  refine k_bipush S dL_rules_236 (v := 15) (by decide) (n := 238) rfl ?_
  refine k_icmp_ge S dL_rules_238 (tgt := 257) (by decide) (n := 241) rfl (fun h9 => absurd h9 (by decide)) (fun _ => ?_)
  refine k_iload1 S dL_rules_241 (n := 242) rfl ?_
  refine k_iconst S dL_rules_242 (v := 2) (by decide) (n := 243) rfl ?_
  refine k_irem S dL_rules_243 (by decide) (n := 244) rfl ?_
  refine k_top 1 (by decide) ?_
  refine k_iconst S dL_rules_244 (v := 1) (by decide) (n := 245) rfl ?_
  refine k_icmp_ne S dL_rules_245 (tgt := 252) (by decide) (n := 248) rfl (fun h9 => absurd (by decide) h9) (fun _ => ?_)
  refine k_iconst S dL_rules_248 (v := 5) (by decide) (n := 249) rfl ?_
  refine k_goto S dL_rules_249 (tgt := 271) (by decide) ?_
  refine k_istore2 S dL_rules_271 (by decide) rfl (n := 272) rfl ?_
  refine k_aload0 S dL_rules_272 (n := 273) rfl ?_
  refine k_iload2 S dL_rules_273 (n := 274) rfl ?_
  refine k_iload2 S dL_rules_274 (n := 275) rfl ?_
  refine k_callS (As := [.ref (za g 0), .int 5, .int 5]) (rest := []) S (qR29 hn) mv_L_two m_624 dL_rules_275 rfl rfl ⟨by decide, by decide⟩ rfl rfl (Nat.le_of_ble_eq_true rfl) ⟨by decide, by decide⟩ (n := 278) rfl (fun _ _ h => h.elim) (fun v9 ν9 h9 => ?_)
  rw [h9.1, h9.2]
  show zK x g ({ frames := 11, cells := 631, slots := 4125, locals := 220 } : Room) 3 84 843 278 [some (.ref (za g 0)), some (.int 13), some (.int 5)] [.int 1] (zOf sR24)
  refine k_if_ne S dL_rules_278 (tgt := 283) (by decide) (n := 281) rfl (fun _ => ?_) (fun h9 => absurd h9 (by decide))
  refine k_iinc1 S dL_rules_283 (v := 14) (by decide) (by decide) (n := 286) rfl ?_
  refine k_goto S dL_rules_286 (tgt := 229) (by decide) ?_
  refine k_iload1 S dL_rules_229 (n := 230) rfl ?_
  refine k_bipush S dL_rules_230 (v := 23) (by decide) (n := 232) rfl ?_
  refine k_icmp_ge S dL_rules_232 (tgt := 289) (by decide) (n := 235) rfl (fun h9 => absurd h9 (by decide)) (fun _ => ?_)
  refine k_iload1 S dL_rules_235 (n := 236) rfl ?_
  refine k_bipush S dL_rules_236 (v := 15) (by decide) (n := 238) rfl ?_
  refine k_icmp_ge S dL_rules_238 (tgt := 257) (by decide) (n := 241) rfl (fun h9 => absurd h9 (by decide)) (fun _ => ?_)
  refine k_iload1 S dL_rules_241 (n := 242) rfl ?_
  refine k_iconst S dL_rules_242 (v := 2) (by decide) (n := 243) rfl ?_
  refine k_irem S dL_rules_243 (by decide) (n := 244) rfl ?_
  refine k_top 0 (by decide) ?_
  refine k_iconst S dL_rules_244 (v := 1) (by decide) (n := 245) rfl ?_
  refine k_icmp_ne S dL_rules_245 (tgt := 252) (by decide) (n := 248) rfl (fun _ => ?_) (fun h9 => absurd h9 (by decide))
  refine k_bipush S dL_rules_252 (v := 9) (by decide) (n := 254) rfl ?_
  refine k_goto S dL_rules_254 (tgt := 271) (by decide) ?_
  refine k_istore2 S dL_rules_271 (by decide) rfl (n := 272) rfl ?_
  refine k_aload0 S dL_rules_272 (n := 273) rfl ?_
  refine k_iload2 S dL_rules_273 (n := 274) rfl ?_
  refine k_iload2 S dL_rules_274 (n := 275) rfl ?_
  refine k_callS (As := [.ref (za g 0), .int 9, .int 9]) (rest := []) S (qR30 hn) mv_L_two m_624 dL_rules_275 rfl rfl ⟨by decide, by decide⟩ rfl rfl (Nat.le_of_ble_eq_true rfl) ⟨by decide, by decide⟩ (n := 278) rfl (fun _ _ h => h.elim) (fun v9 ν9 h9 => ?_)
  rw [h9.1, h9.2]
  show zK x g ({ frames := 11, cells := 631, slots := 4125, locals := 220 } : Room) 3 86 855 278 [some (.ref (za g 0)), some (.int 14), some (.int 9)] [.int 1] (zOf sR25)
  refine k_if_ne S dL_rules_278 (tgt := 283) (by decide) (n := 281) rfl (fun _ => ?_) (fun h9 => absurd h9 (by decide))
  refine k_iinc1 S dL_rules_283 (v := 15) (by decide) (by decide) (n := 286) rfl ?_
  refine k_goto S dL_rules_286 (tgt := 229) (by decide) ?_
  refine k_iload1 S dL_rules_229 (n := 230) rfl ?_
  refine k_bipush S dL_rules_230 (v := 23) (by decide) (n := 232) rfl ?_
  refine k_icmp_ge S dL_rules_232 (tgt := 289) (by decide) (n := 235) rfl (fun h9 => absurd h9 (by decide)) (fun _ => ?_)
  refine k_iload1 S dL_rules_235 (n := 236) rfl ?_
  refine k_bipush S dL_rules_236 (v := 15) (by decide) (n := 238) rfl ?_
  refine k_icmp_ge S dL_rules_238 (tgt := 257) (by decide) (n := 241) rfl (fun _ => ?_) (fun h9 => absurd (by decide) h9)
  refine k_iload1 S dL_rules_257 (n := 258) rfl ?_
  refine k_iconst S dL_rules_258 (v := 2) (by decide) (n := 259) rfl ?_
  refine k_irem S dL_rules_259 (by decide) (n := 260) rfl ?_
  refine k_top 1 (by decide) ?_
  refine k_iconst S dL_rules_260 (v := 1) (by decide) (n := 261) rfl ?_
  refine k_icmp_ne S dL_rules_261 (tgt := 269) (by decide) (n := 264) rfl (fun h9 => absurd (by decide) h9) (fun _ => ?_)
  refine k_bipush S dL_rules_264 (v := (-100)) (by decide) (n := 266) rfl ?_
  refine k_goto S dL_rules_266 (tgt := 271) (by decide) ?_
  refine k_istore2 S dL_rules_271 (by decide) rfl (n := 272) rfl ?_
  refine k_aload0 S dL_rules_272 (n := 273) rfl ?_
  refine k_iload2 S dL_rules_273 (n := 274) rfl ?_
  refine k_iload2 S dL_rules_274 (n := 275) rfl ?_
  refine k_callS (As := [.ref (za g 0), .int ((-100)), .int ((-100))]) (rest := []) S (qR31 hn) mv_L_two m_624 dL_rules_275 rfl rfl ⟨by decide, by decide⟩ rfl rfl (Nat.le_of_ble_eq_true rfl) ⟨by decide, by decide⟩ (n := 278) rfl (fun _ _ h => h.elim) (fun v9 ν9 h9 => ?_)
  rw [h9.1, h9.2]
  show zK x g ({ frames := 11, cells := 631, slots := 4125, locals := 220 } : Room) 3 88 867 278 [some (.ref (za g 0)), some (.int 15), some (.int ((-100)))] [.int 1] (zOf sR26)
  exact gR4 S hn hend
set_option maxRecDepth 100000 in
set_option maxHeartbeats 4000000 in
theorem gR2 {x : zX} {g : zG} (S : zS x g 3 cL_rules RL) (hn : zn g = 21) (hend : ∀ (ce sl : Nat) (L : List (Option Value)) (μ : zM), ce ≤ 631 → sl ≤ 4125 → zK x g ({ frames := 11, cells := 631, slots := 4125, locals := 220 } : Room) 3 ce sl 937 L [.int 1] μ) : zK x g ({ frames := 11, cells := 631, slots := 4125, locals := 220 } : Room) 3 56 675 102 [some (.ref (za g 0)), some (.int 10), none] [.int 1] (zOf sR15) := by
  refine k_if_eq S dL_rules_102 (tgt := 224) (by decide) (n := 105) rfl (fun h9 => absurd h9 (by decide)) (fun _ => ?_)
  refine k_aload0 S dL_rules_105 (n := 106) rfl ?_
  refine k_bipush S dL_rules_106 (v := 9) (by decide) (n := 108) rfl ?_
  refine k_bipush S dL_rules_108 (v := 8) (by decide) (n := 110) rfl ?_
  refine k_callS (As := [.ref (za g 0), .int 9, .int 8]) (rest := []) S (qR16 hn) mv_L_breaks m_630 dL_rules_110 rfl rfl ⟨by decide, by decide⟩ rfl rfl (Nat.le_of_ble_eq_true rfl) ⟨by decide, by decide⟩ (n := 113) rfl (fun _ _ h => h.elim) (fun v9 ν9 h9 => ?_)
  rw [h9.1, h9.2]
  show zK x g ({ frames := 11, cells := 631, slots := 4125, locals := 220 } : Room) 3 58 687 113 [some (.ref (za g 0)), some (.int 10), none] [.int 1] (zOf sR16)
  refine k_if_eq S dL_rules_113 (tgt := 224) (by decide) (n := 116) rfl (fun h9 => absurd h9 (by decide)) (fun _ => ?_)
  refine k_aload0 S dL_rules_116 (n := 117) rfl ?_
  refine k_bipush S dL_rules_117 (v := 10) (by decide) (n := 119) rfl ?_
  refine k_bipush S dL_rules_119 (v := 12) (by decide) (n := 121) rfl ?_
  refine k_callS (As := [.ref (za g 0), .int 10, .int 12]) (rest := []) S (qR17 hn) mv_L_breaks m_630 dL_rules_121 rfl rfl ⟨by decide, by decide⟩ rfl rfl (Nat.le_of_ble_eq_true rfl) ⟨by decide, by decide⟩ (n := 124) rfl (fun _ _ h => h.elim) (fun v9 ν9 h9 => ?_)
  rw [h9.1, h9.2]
  show zK x g ({ frames := 11, cells := 631, slots := 4125, locals := 220 } : Room) 3 60 699 124 [some (.ref (za g 0)), some (.int 10), none] [.int 1] (zOf sR17)
  refine k_if_eq S dL_rules_124 (tgt := 224) (by decide) (n := 127) rfl (fun h9 => absurd h9 (by decide)) (fun _ => ?_)
  refine k_aload0 S dL_rules_127 (n := 128) rfl ?_
  refine k_bipush S dL_rules_128 (v := 6) (by decide) (n := 130) rfl ?_
  refine k_iconst S dL_rules_130 (v := 3) (by decide) (n := 131) rfl ?_
  refine k_callV (As := [.int 6, .int 3]) (rest := []) (p := 0) S (qR18 hn) mv_X3_firstOf m_571 dL_rules_131 rfl rfl ⟨by decide, by decide⟩ (zlt S (by decide)) (by decide) (ci := 3) rfl rfl rfl (Nat.le_of_ble_eq_true rfl) ⟨by decide, by decide⟩ (n := 134) rfl (fun _ _ h => h.elim) (fun v9 ν9 h9 => ?_)
  rw [h9.1, h9.2]
  show zK x g ({ frames := 11, cells := 631, slots := 4125, locals := 220 } : Room) 3 62 711 134 [some (.ref (za g 0)), some (.int 10), none] [.int 1] (zOf sR18)
  refine k_iconst S dL_rules_134 (v := 1) (by decide) (n := 135) rfl ?_
  refine k_icmp_ne S dL_rules_135 (tgt := 224) (by decide) (n := 138) rfl (fun h9 => absurd (by decide) h9) (fun _ => ?_)
  refine k_aload0 S dL_rules_138 (n := 139) rfl ?_
  refine k_bipush S dL_rules_139 (v := 10) (by decide) (n := 141) rfl ?_
  refine k_iconst S dL_rules_141 (v := 2) (by decide) (n := 142) rfl ?_
  refine k_callV (As := [.int 10, .int 2]) (rest := []) (p := 0) S (qR19 hn) mv_X3_firstOf m_571 dL_rules_142 rfl rfl ⟨by decide, by decide⟩ (zlt S (by decide)) (by decide) (ci := 3) rfl rfl rfl (Nat.le_of_ble_eq_true rfl) ⟨by decide, by decide⟩ (n := 145) rfl (fun _ _ h => h.elim) (fun v9 ν9 h9 => ?_)
  rw [h9.1, h9.2]
  show zK x g ({ frames := 11, cells := 631, slots := 4125, locals := 220 } : Room) 3 64 723 145 [some (.ref (za g 0)), some (.int 10), none] [.int 2] (zOf sR17)
  refine k_iconst S dL_rules_145 (v := 2) (by decide) (n := 146) rfl ?_
  refine k_icmp_ne S dL_rules_146 (tgt := 224) (by decide) (n := 149) rfl (fun h9 => absurd (by decide) h9) (fun _ => ?_)
  refine k_aload0 S dL_rules_149 (n := 150) rfl ?_
  refine k_bipush S dL_rules_150 (v := 10) (by decide) (n := 152) rfl ?_
  refine k_iconst S dL_rules_152 (v := 3) (by decide) (n := 153) rfl ?_
  refine k_callV (As := [.int 10, .int 3]) (rest := []) (p := 0) S (qR20 hn) mv_X3_firstOf m_571 dL_rules_153 rfl rfl ⟨by decide, by decide⟩ (zlt S (by decide)) (by decide) (ci := 3) rfl rfl rfl (Nat.le_of_ble_eq_true rfl) ⟨by decide, by decide⟩ (n := 156) rfl (fun _ _ h => h.elim) (fun v9 ν9 h9 => ?_)
  rw [h9.1, h9.2]
  show zK x g ({ frames := 11, cells := 631, slots := 4125, locals := 220 } : Room) 3 66 735 156 [some (.ref (za g 0)), some (.int 10), none] [.int 5] (zOf sR17)
  refine k_iconst S dL_rules_156 (v := 5) (by decide) (n := 157) rfl ?_
  refine k_icmp_ne S dL_rules_157 (tgt := 224) (by decide) (n := 160) rfl (fun h9 => absurd (by decide) h9) (fun _ => ?_)
  refine k_aload0 S dL_rules_160 (n := 161) rfl ?_
  refine k_bipush S dL_rules_161 (v := 6) (by decide) (n := 163) rfl ?_
  refine k_iconst S dL_rules_163 (v := 3) (by decide) (n := 164) rfl ?_
  refine k_callV (As := [.int 6, .int 3]) (rest := []) (p := 0) S (qR21 hn) mv_X3_exclude m_471 dL_rules_164 rfl rfl ⟨by decide, by decide⟩ (zlt S (by decide)) (by decide) (ci := 3) rfl rfl rfl (Nat.le_of_ble_eq_true rfl) ⟨by decide, by decide⟩ (n := 167) rfl (fun _ _ h => h.elim) (fun v9 ν9 h9 => ?_)
  rw [h9.1, h9.2]
  show zK x g ({ frames := 11, cells := 631, slots := 4125, locals := 220 } : Room) 3 68 747 167 [some (.ref (za g 0)), some (.int 10), none] [.int 0] (zOf sR19)
  refine k_if_ne S dL_rules_167 (tgt := 224) (by decide) (n := 170) rfl (fun h9 => absurd (by decide) h9) (fun _ => ?_)
  refine k_aload0 S dL_rules_170 (n := 171) rfl ?_
  refine k_bipush S dL_rules_171 (v := 6) (by decide) (n := 173) rfl ?_
  refine k_iconst S dL_rules_173 (v := 0) (by decide) (n := 174) rfl ?_
  refine k_callS (As := [.ref (za g 0), .int 6, .int 0]) (rest := []) S (qR22 hn) mv_L_breaks m_630 dL_rules_174 rfl rfl ⟨by decide, by decide⟩ rfl rfl (Nat.le_of_ble_eq_true rfl) ⟨by decide, by decide⟩ (n := 177) rfl (fun _ _ h => h.elim) (fun v9 ν9 h9 => ?_)
  rw [h9.1, h9.2]
  show zK x g ({ frames := 11, cells := 631, slots := 4125, locals := 220 } : Room) 3 70 759 177 [some (.ref (za g 0)), some (.int 10), none] [.int 1] (zOf sR19)
  refine k_if_eq S dL_rules_177 (tgt := 224) (by decide) (n := 180) rfl (fun h9 => absurd h9 (by decide)) (fun _ => ?_)
  refine k_aload0 S dL_rules_180 (n := 181) rfl ?_
  refine k_bipush S dL_rules_181 (v := 10) (by decide) (n := 183) rfl ?_
  refine k_bipush S dL_rules_183 (v := 8) (by decide) (n := 185) rfl ?_
  refine k_callS (As := [.ref (za g 0), .int 10, .int 8]) (rest := []) S (qR23 hn) mv_L_breaks m_630 dL_rules_185 rfl rfl ⟨by decide, by decide⟩ rfl rfl (Nat.le_of_ble_eq_true rfl) ⟨by decide, by decide⟩ (n := 188) rfl (fun _ _ h => h.elim) (fun v9 ν9 h9 => ?_)
  rw [h9.1, h9.2]
  show zK x g ({ frames := 11, cells := 631, slots := 4125, locals := 220 } : Room) 3 72 771 188 [some (.ref (za g 0)), some (.int 10), none] [.int 1] (zOf sR20)
  exact gR3 S hn hend
set_option maxRecDepth 100000 in
set_option maxHeartbeats 4000000 in
theorem gR1 {x : zX} {g : zG} (S : zS x g 3 cL_rules RL) (hn : zn g = 21) (hend : ∀ (ce sl : Nat) (L : List (Option Value)) (μ : zM), ce ≤ 631 → sl ≤ 4125 → zK x g ({ frames := 11, cells := 631, slots := 4125, locals := 220 } : Room) 3 ce sl 937 L [.int 1] μ) : zK x g ({ frames := 11, cells := 631, slots := 4125, locals := 220 } : Room) 3 40 579 74 [some (.ref (za g 0)), some (.int 3), none] [.int 1] (zOf sR7) := by
  refine k_if_ne S dL_rules_74 (tgt := 79) (by decide) (n := 77) rfl (fun _ => ?_) (fun h9 => absurd h9 (by decide))
  refine k_iinc1 S dL_rules_79 (v := 4) (by decide) (by decide) (n := 82) rfl ?_
  refine k_goto S dL_rules_82 (tgt := 62) (by decide) ?_
  refine k_iload1 S dL_rules_62 (n := 63) rfl ?_
  refine k_bipush S dL_rules_63 (v := 10) (by decide) (n := 65) rfl ?_
  refine k_icmp_ge S dL_rules_65 (tgt := 85) (by decide) (n := 68) rfl (fun h9 => absurd h9 (by decide)) (fun _ => ?_)
  refine k_aload0 S dL_rules_68 (n := 69) rfl ?_
  refine k_iload1 S dL_rules_69 (n := 70) rfl ?_
  refine k_iload1 S dL_rules_70 (n := 71) rfl ?_
  refine k_callS (As := [.ref (za g 0), .int 4, .int 4]) (rest := []) S (qR8 hn) mv_L_two m_624 dL_rules_71 rfl rfl ⟨by decide, by decide⟩ rfl rfl (Nat.le_of_ble_eq_true rfl) ⟨by decide, by decide⟩ (n := 74) rfl (fun _ _ h => h.elim) (fun v9 ν9 h9 => ?_)
  rw [h9.1, h9.2]
  show zK x g ({ frames := 11, cells := 631, slots := 4125, locals := 220 } : Room) 3 42 591 74 [some (.ref (za g 0)), some (.int 4), none] [.int 1] (zOf sR8)
  refine k_if_ne S dL_rules_74 (tgt := 79) (by decide) (n := 77) rfl (fun _ => ?_) (fun h9 => absurd h9 (by decide))
  refine k_iinc1 S dL_rules_79 (v := 5) (by decide) (by decide) (n := 82) rfl ?_
  refine k_goto S dL_rules_82 (tgt := 62) (by decide) ?_
  refine k_iload1 S dL_rules_62 (n := 63) rfl ?_
  refine k_bipush S dL_rules_63 (v := 10) (by decide) (n := 65) rfl ?_
  refine k_icmp_ge S dL_rules_65 (tgt := 85) (by decide) (n := 68) rfl (fun h9 => absurd h9 (by decide)) (fun _ => ?_)
  refine k_aload0 S dL_rules_68 (n := 69) rfl ?_
  refine k_iload1 S dL_rules_69 (n := 70) rfl ?_
  refine k_iload1 S dL_rules_70 (n := 71) rfl ?_
  refine k_callS (As := [.ref (za g 0), .int 5, .int 5]) (rest := []) S (qR9 hn) mv_L_two m_624 dL_rules_71 rfl rfl ⟨by decide, by decide⟩ rfl rfl (Nat.le_of_ble_eq_true rfl) ⟨by decide, by decide⟩ (n := 74) rfl (fun _ _ h => h.elim) (fun v9 ν9 h9 => ?_)
  rw [h9.1, h9.2]
  show zK x g ({ frames := 11, cells := 631, slots := 4125, locals := 220 } : Room) 3 44 603 74 [some (.ref (za g 0)), some (.int 5), none] [.int 1] (zOf sR9)
  refine k_if_ne S dL_rules_74 (tgt := 79) (by decide) (n := 77) rfl (fun _ => ?_) (fun h9 => absurd h9 (by decide))
  refine k_iinc1 S dL_rules_79 (v := 6) (by decide) (by decide) (n := 82) rfl ?_
  refine k_goto S dL_rules_82 (tgt := 62) (by decide) ?_
  refine k_iload1 S dL_rules_62 (n := 63) rfl ?_
  refine k_bipush S dL_rules_63 (v := 10) (by decide) (n := 65) rfl ?_
  refine k_icmp_ge S dL_rules_65 (tgt := 85) (by decide) (n := 68) rfl (fun h9 => absurd h9 (by decide)) (fun _ => ?_)
  refine k_aload0 S dL_rules_68 (n := 69) rfl ?_
  refine k_iload1 S dL_rules_69 (n := 70) rfl ?_
  refine k_iload1 S dL_rules_70 (n := 71) rfl ?_
  refine k_callS (As := [.ref (za g 0), .int 6, .int 6]) (rest := []) S (qR10 hn) mv_L_two m_624 dL_rules_71 rfl rfl ⟨by decide, by decide⟩ rfl rfl (Nat.le_of_ble_eq_true rfl) ⟨by decide, by decide⟩ (n := 74) rfl (fun _ _ h => h.elim) (fun v9 ν9 h9 => ?_)
  rw [h9.1, h9.2]
  show zK x g ({ frames := 11, cells := 631, slots := 4125, locals := 220 } : Room) 3 46 615 74 [some (.ref (za g 0)), some (.int 6), none] [.int 1] (zOf sR10)
  refine k_if_ne S dL_rules_74 (tgt := 79) (by decide) (n := 77) rfl (fun _ => ?_) (fun h9 => absurd h9 (by decide))
  refine k_iinc1 S dL_rules_79 (v := 7) (by decide) (by decide) (n := 82) rfl ?_
  refine k_goto S dL_rules_82 (tgt := 62) (by decide) ?_
  refine k_iload1 S dL_rules_62 (n := 63) rfl ?_
  refine k_bipush S dL_rules_63 (v := 10) (by decide) (n := 65) rfl ?_
  refine k_icmp_ge S dL_rules_65 (tgt := 85) (by decide) (n := 68) rfl (fun h9 => absurd h9 (by decide)) (fun _ => ?_)
  refine k_aload0 S dL_rules_68 (n := 69) rfl ?_
  refine k_iload1 S dL_rules_69 (n := 70) rfl ?_
  refine k_iload1 S dL_rules_70 (n := 71) rfl ?_
  refine k_callS (As := [.ref (za g 0), .int 7, .int 7]) (rest := []) S (qR11 hn) mv_L_two m_624 dL_rules_71 rfl rfl ⟨by decide, by decide⟩ rfl rfl (Nat.le_of_ble_eq_true rfl) ⟨by decide, by decide⟩ (n := 74) rfl (fun _ _ h => h.elim) (fun v9 ν9 h9 => ?_)
  rw [h9.1, h9.2]
  show zK x g ({ frames := 11, cells := 631, slots := 4125, locals := 220 } : Room) 3 48 627 74 [some (.ref (za g 0)), some (.int 7), none] [.int 1] (zOf sR11)
  refine k_if_ne S dL_rules_74 (tgt := 79) (by decide) (n := 77) rfl (fun _ => ?_) (fun h9 => absurd h9 (by decide))
  refine k_iinc1 S dL_rules_79 (v := 8) (by decide) (by decide) (n := 82) rfl ?_
  refine k_goto S dL_rules_82 (tgt := 62) (by decide) ?_
  refine k_iload1 S dL_rules_62 (n := 63) rfl ?_
  refine k_bipush S dL_rules_63 (v := 10) (by decide) (n := 65) rfl ?_
  refine k_icmp_ge S dL_rules_65 (tgt := 85) (by decide) (n := 68) rfl (fun h9 => absurd h9 (by decide)) (fun _ => ?_)
  refine k_aload0 S dL_rules_68 (n := 69) rfl ?_
  refine k_iload1 S dL_rules_69 (n := 70) rfl ?_
  refine k_iload1 S dL_rules_70 (n := 71) rfl ?_
  refine k_callS (As := [.ref (za g 0), .int 8, .int 8]) (rest := []) S (qR12 hn) mv_L_two m_624 dL_rules_71 rfl rfl ⟨by decide, by decide⟩ rfl rfl (Nat.le_of_ble_eq_true rfl) ⟨by decide, by decide⟩ (n := 74) rfl (fun _ _ h => h.elim) (fun v9 ν9 h9 => ?_)
  rw [h9.1, h9.2]
  show zK x g ({ frames := 11, cells := 631, slots := 4125, locals := 220 } : Room) 3 50 639 74 [some (.ref (za g 0)), some (.int 8), none] [.int 1] (zOf sR12)
  refine k_if_ne S dL_rules_74 (tgt := 79) (by decide) (n := 77) rfl (fun _ => ?_) (fun h9 => absurd h9 (by decide))
  refine k_iinc1 S dL_rules_79 (v := 9) (by decide) (by decide) (n := 82) rfl ?_
  refine k_goto S dL_rules_82 (tgt := 62) (by decide) ?_
  refine k_iload1 S dL_rules_62 (n := 63) rfl ?_
  refine k_bipush S dL_rules_63 (v := 10) (by decide) (n := 65) rfl ?_
  refine k_icmp_ge S dL_rules_65 (tgt := 85) (by decide) (n := 68) rfl (fun h9 => absurd h9 (by decide)) (fun _ => ?_)
  refine k_aload0 S dL_rules_68 (n := 69) rfl ?_
  refine k_iload1 S dL_rules_69 (n := 70) rfl ?_
  refine k_iload1 S dL_rules_70 (n := 71) rfl ?_
  refine k_callS (As := [.ref (za g 0), .int 9, .int 9]) (rest := []) S (qR13 hn) mv_L_two m_624 dL_rules_71 rfl rfl ⟨by decide, by decide⟩ rfl rfl (Nat.le_of_ble_eq_true rfl) ⟨by decide, by decide⟩ (n := 74) rfl (fun _ _ h => h.elim) (fun v9 ν9 h9 => ?_)
  rw [h9.1, h9.2]
  show zK x g ({ frames := 11, cells := 631, slots := 4125, locals := 220 } : Room) 3 52 651 74 [some (.ref (za g 0)), some (.int 9), none] [.int 1] (zOf sR13)
  refine k_if_ne S dL_rules_74 (tgt := 79) (by decide) (n := 77) rfl (fun _ => ?_) (fun h9 => absurd h9 (by decide))
  refine k_iinc1 S dL_rules_79 (v := 10) (by decide) (by decide) (n := 82) rfl ?_
  refine k_goto S dL_rules_82 (tgt := 62) (by decide) ?_
  refine k_iload1 S dL_rules_62 (n := 63) rfl ?_
  refine k_bipush S dL_rules_63 (v := 10) (by decide) (n := 65) rfl ?_
  refine k_icmp_ge S dL_rules_65 (tgt := 85) (by decide) (n := 68) rfl (fun _ => ?_) (fun h9 => absurd (by decide) h9)
  refine k_aload0 S dL_rules_85 (n := 86) rfl ?_
  refine k_iconst S dL_rules_86 (v := 5) (by decide) (n := 87) rfl ?_
  refine k_iconst S dL_rules_87 (v := 0) (by decide) (n := 88) rfl ?_
  refine k_callS (As := [.ref (za g 0), .int 5, .int 0]) (rest := []) S (qR14 hn) mv_L_breaks m_630 dL_rules_88 rfl rfl ⟨by decide, by decide⟩ rfl rfl (Nat.le_of_ble_eq_true rfl) ⟨by decide, by decide⟩ (n := 91) rfl (fun _ _ h => h.elim) (fun v9 ν9 h9 => ?_)
  rw [h9.1, h9.2]
  show zK x g ({ frames := 11, cells := 631, slots := 4125, locals := 220 } : Room) 3 54 663 91 [some (.ref (za g 0)), some (.int 10), none] [.int 1] (zOf sR14)
  refine k_if_eq S dL_rules_91 (tgt := 224) (by decide) (n := 94) rfl (fun h9 => absurd h9 (by decide)) (fun _ => ?_)
  refine k_aload0 S dL_rules_94 (n := 95) rfl ?_
  refine k_bipush S dL_rules_95 (v := 6) (by decide) (n := 97) rfl ?_
  refine k_bipush S dL_rules_97 (v := 8) (by decide) (n := 99) rfl ?_
  refine k_callS (As := [.ref (za g 0), .int 6, .int 8]) (rest := []) S (qR15 hn) mv_L_breaks m_630 dL_rules_99 rfl rfl ⟨by decide, by decide⟩ rfl rfl (Nat.le_of_ble_eq_true rfl) ⟨by decide, by decide⟩ (n := 102) rfl (fun _ _ h => h.elim) (fun v9 ν9 h9 => ?_)
  rw [h9.1, h9.2]
  show zK x g ({ frames := 11, cells := 631, slots := 4125, locals := 220 } : Room) 3 56 675 102 [some (.ref (za g 0)), some (.int 10), none] [.int 1] (zOf sR15)
  exact gR2 S hn hend
set_option maxRecDepth 100000 in
set_option maxHeartbeats 4000000 in
theorem gR0 {x : zX} {g : zG} (S : zS x g 3 cL_rules RL) (hn : zn g = 21) (hend : ∀ (ce sl : Nat) (L : List (Option Value)) (μ : zM), ce ≤ 631 → sl ≤ 4125 → zK x g ({ frames := 11, cells := 631, slots := 4125, locals := 220 } : Room) 3 ce sl 937 L [.int 1] μ) : zK x g ({ frames := 11, cells := 631, slots := 4125, locals := 220 } : Room) 3 21 465 8 [some (.ref (za g 0)), none, none] [] (zOf sR0) := by
  refine k_aload0 S dL_rules_8 (n := 9) rfl ?_
  refine k_iconst S dL_rules_9 (v := 2) (by decide) (n := 10) rfl ?_
  refine k_callH (As := [.ref (za g 0), .int 2]) (rest := []) S (y_begin (qR0 hn)) mv_L_begin m_335 dL_rules_10 rfl rfl ⟨by decide, by decide⟩ rfl rfl (Nat.le_of_ble_eq_true rfl) ⟨by decide, by decide⟩ (n := 13) rfl (fun _ _ h => h.elim) (fun v9 ν9 h9 => ?_)
  rw [h9.1, h9.2]
  show zK x g ({ frames := 11, cells := 631, slots := 4125, locals := 220 } : Room) 3 22 471 13 [some (.ref (za g 0)), none, none] [.int 0] (zOf sR1)
  refine k_if_ne S dL_rules_13 (tgt := 58) (by decide) (n := 16) rfl (fun h9 => absurd (by decide) h9) (fun _ => ?_)
  refine k_aload0 S dL_rules_16 (n := 17) rfl ?_
  refine k_bipush S dL_rules_17 (v := (-50)) (by decide) (n := 19) rfl ?_
  refine k_bipush S dL_rules_19 (v := 50) (by decide) (n := 21) rfl ?_
  refine k_callS (As := [.ref (za g 0), .int ((-50)), .int 50]) (rest := []) S (qR1 hn) mv_L_two m_624 dL_rules_21 rfl rfl ⟨by decide, by decide⟩ rfl rfl (Nat.le_of_ble_eq_true rfl) ⟨by decide, by decide⟩ (n := 24) rfl (fun _ _ h => h.elim) (fun v9 ν9 h9 => ?_)
  rw [h9.1, h9.2]
  show zK x g ({ frames := 11, cells := 631, slots := 4125, locals := 220 } : Room) 3 24 483 24 [some (.ref (za g 0)), none, none] [.int 1] (zOf sR2)
  refine k_if_eq S dL_rules_24 (tgt := 58) (by decide) (n := 27) rfl (fun h9 => absurd h9 (by decide)) (fun _ => ?_)
  refine k_aload0 S dL_rules_27 (n := 28) rfl ?_
  refine k_bipush S dL_rules_28 (v := 50) (by decide) (n := 30) rfl ?_
  refine k_bipush S dL_rules_30 (v := (-50)) (by decide) (n := 32) rfl ?_
  refine k_callS (As := [.ref (za g 0), .int 50, .int ((-50))]) (rest := []) S (qR2 hn) mv_L_two m_624 dL_rules_32 rfl rfl ⟨by decide, by decide⟩ rfl rfl (Nat.le_of_ble_eq_true rfl) ⟨by decide, by decide⟩ (n := 35) rfl (fun _ _ h => h.elim) (fun v9 ν9 h9 => ?_)
  rw [h9.1, h9.2]
  show zK x g ({ frames := 11, cells := 631, slots := 4125, locals := 220 } : Room) 3 26 495 35 [some (.ref (za g 0)), none, none] [.int 1] (zOf sR3)
  refine k_if_eq S dL_rules_35 (tgt := 58) (by decide) (n := 38) rfl (fun h9 => absurd h9 (by decide)) (fun _ => ?_)
  refine k_aload0 S dL_rules_38 (n := 39) rfl ?_
  refine k_iconst S dL_rules_39 (v := 0) (by decide) (n := 40) rfl ?_
  refine k_callH (As := [.ref (za g 0), .int 0]) (rest := []) S (y_holds (qR3 hn)) mv_L_holds m_418 dL_rules_40 rfl rfl ⟨by decide, by decide⟩ rfl rfl (Nat.le_of_ble_eq_true rfl) ⟨by decide, by decide⟩ (n := 43) rfl (fun _ _ h => h.elim) (fun v9 ν9 h9 => ?_)
  rw [h9.1, h9.2]
  show zK x g ({ frames := 11, cells := 631, slots := 4125, locals := 220 } : Room) 3 28 507 43 [some (.ref (za g 0)), none, none] [.int 0] (zOf sR4)
  refine k_if_ne S dL_rules_43 (tgt := 58) (by decide) (n := 46) rfl (fun h9 => absurd (by decide) h9) (fun _ => ?_)
  refine k_aload0 S dL_rules_46 (n := 47) rfl ?_
  refine k_iconst S dL_rules_47 (v := 0) (by decide) (n := 48) rfl ?_
  refine k_ldc S dL_rules_48 (v := 188000) m_640 (n := 50) rfl ?_
  refine k_ldc S dL_rules_50 (v := 326700) m_641 (n := 52) rfl ?_
  refine k_callS (As := [.ref (za g 0), .int 0, .int 188000, .int 326700]) (rest := []) S (qR4 hn) mv_L_limits m_627 dL_rules_52 rfl rfl ⟨by decide, by decide⟩ rfl rfl (Nat.le_of_ble_eq_true rfl) ⟨by decide, by decide⟩ (n := 55) rfl (fun _ _ h => h.elim) (fun v9 ν9 h9 => ?_)
  rw [h9.1, h9.2]
  show zK x g ({ frames := 11, cells := 631, slots := 4125, locals := 220 } : Room) 3 34 543 55 [some (.ref (za g 0)), none, none] [.int 1] (zOf sR4)
  refine k_if_ne S dL_rules_55 (tgt := 60) (by decide) (n := 58) rfl (fun _ => ?_) (fun h9 => absurd h9 (by decide))
  refine k_iconst S dL_rules_60 (v := 1) (by decide) (n := 61) rfl ?_
  refine k_istore1 S dL_rules_61 (by decide) rfl (n := 62) rfl ?_
  refine k_iload1 S dL_rules_62 (n := 63) rfl ?_
  refine k_bipush S dL_rules_63 (v := 10) (by decide) (n := 65) rfl ?_
  refine k_icmp_ge S dL_rules_65 (tgt := 85) (by decide) (n := 68) rfl (fun h9 => absurd h9 (by decide)) (fun _ => ?_)
  refine k_aload0 S dL_rules_68 (n := 69) rfl ?_
  refine k_iload1 S dL_rules_69 (n := 70) rfl ?_
  refine k_iload1 S dL_rules_70 (n := 71) rfl ?_
  refine k_callS (As := [.ref (za g 0), .int 1, .int 1]) (rest := []) S (qR5 hn) mv_L_two m_624 dL_rules_71 rfl rfl ⟨by decide, by decide⟩ rfl rfl (Nat.le_of_ble_eq_true rfl) ⟨by decide, by decide⟩ (n := 74) rfl (fun _ _ h => h.elim) (fun v9 ν9 h9 => ?_)
  rw [h9.1, h9.2]
  show zK x g ({ frames := 11, cells := 631, slots := 4125, locals := 220 } : Room) 3 36 555 74 [some (.ref (za g 0)), some (.int 1), none] [.int 1] (zOf sR5)
  refine k_if_ne S dL_rules_74 (tgt := 79) (by decide) (n := 77) rfl (fun _ => ?_) (fun h9 => absurd h9 (by decide))
  refine k_iinc1 S dL_rules_79 (v := 2) (by decide) (by decide) (n := 82) rfl ?_
  refine k_goto S dL_rules_82 (tgt := 62) (by decide) ?_
  refine k_iload1 S dL_rules_62 (n := 63) rfl ?_
  refine k_bipush S dL_rules_63 (v := 10) (by decide) (n := 65) rfl ?_
  refine k_icmp_ge S dL_rules_65 (tgt := 85) (by decide) (n := 68) rfl (fun h9 => absurd h9 (by decide)) (fun _ => ?_)
  refine k_aload0 S dL_rules_68 (n := 69) rfl ?_
  refine k_iload1 S dL_rules_69 (n := 70) rfl ?_
  refine k_iload1 S dL_rules_70 (n := 71) rfl ?_
  refine k_callS (As := [.ref (za g 0), .int 2, .int 2]) (rest := []) S (qR6 hn) mv_L_two m_624 dL_rules_71 rfl rfl ⟨by decide, by decide⟩ rfl rfl (Nat.le_of_ble_eq_true rfl) ⟨by decide, by decide⟩ (n := 74) rfl (fun _ _ h => h.elim) (fun v9 ν9 h9 => ?_)
  rw [h9.1, h9.2]
  show zK x g ({ frames := 11, cells := 631, slots := 4125, locals := 220 } : Room) 3 38 567 74 [some (.ref (za g 0)), some (.int 2), none] [.int 1] (zOf sR6)
  refine k_if_ne S dL_rules_74 (tgt := 79) (by decide) (n := 77) rfl (fun _ => ?_) (fun h9 => absurd h9 (by decide))
  refine k_iinc1 S dL_rules_79 (v := 3) (by decide) (by decide) (n := 82) rfl ?_
  refine k_goto S dL_rules_82 (tgt := 62) (by decide) ?_
  refine k_iload1 S dL_rules_62 (n := 63) rfl ?_
  refine k_bipush S dL_rules_63 (v := 10) (by decide) (n := 65) rfl ?_
  refine k_icmp_ge S dL_rules_65 (tgt := 85) (by decide) (n := 68) rfl (fun h9 => absurd h9 (by decide)) (fun _ => ?_)
  refine k_aload0 S dL_rules_68 (n := 69) rfl ?_
  refine k_iload1 S dL_rules_69 (n := 70) rfl ?_
  refine k_iload1 S dL_rules_70 (n := 71) rfl ?_
  refine k_callS (As := [.ref (za g 0), .int 3, .int 3]) (rest := []) S (qR7 hn) mv_L_two m_624 dL_rules_71 rfl rfl ⟨by decide, by decide⟩ rfl rfl (Nat.le_of_ble_eq_true rfl) ⟨by decide, by decide⟩ (n := 74) rfl (fun _ _ h => h.elim) (fun v9 ν9 h9 => ?_)
  rw [h9.1, h9.2]
  show zK x g ({ frames := 11, cells := 631, slots := 4125, locals := 220 } : Room) 3 40 579 74 [some (.ref (za g 0)), some (.int 3), none] [.int 1] (zOf sR7)
  exact gR1 S hn hend

def LU0 (Cn : String) (x : MethodName) (M2 : MD) (np : Nat) : Prop := CW M2 np ∧ Cond.sameMethod x.cls x.cls x.name x.desc ∈ lw_good ∧ Cond.selects Cn x M2.1 ∈ lw_good ∧ Cond.instanceMethod M2.1 ∈ lw_good ∧ Cond.instanceMethod ⟨x.cls, x.name, x.desc⟩ ∈ lw_good ∧ (∃ (b0 : ByteArray) (m0 : Nat) (r0 : Option FieldType), Cond.code ⟨x.cls, x.name, x.desc⟩ b0 m0 r0 ∈ lw_good) ∧ (x.cls ≠ "java/lang/invoke/MethodHandle" ∧ x.cls ≠ "java/lang/invoke/VarHandle" ∧ (parseMethodDescriptor x.desc).map (fun d => d.parameters.length) = some np)
theorem LU0.to {own : String} {idx : Nat} {Cn : String} {x : MethodName} {M2 : MD} {np : Nat} (h : LU0 Cn x M2 np) (hl : Cond.methodLink own idx x ∈ lw_good) : LU own idx Cn x M2 np := by
  obtain ⟨h1, h2, h3, h4, h5, h6, h7⟩ := h
  exact ⟨h1, hl, h2, h3, h4, h5, h6, h7⟩
theorem rdK {D : xD} {N : Nat} {c x V : T2} {ln df : Nat → Option Nat} {rest : List va_E} {k : Nat} (hk : k < 6) : (encC D N c x V ln df ++ rest)[15 + k]? = some (.inr (kci k, [])) := by
  rcases (show k = 0 ∨ k = 1 ∨ k = 2 ∨ k = 3 ∨ k = 4 ∨ k = 5 by omega) with rfl | rfl | rfl | rfl | rfl | rfl <;> rfl
abbrev xR_needOf : MethodName := ⟨"FillAndGo$Run", "needOf", "(I)I"⟩
theorem lu_needOf_Rn : LU0 RX6 xR_needOf M_Rn_needOf 1 := ⟨cw_Rn_needOf, gw 632 (by decide +kernel) (by decide +kernel), gw 631 (by decide +kernel) (by decide +kernel), gw 630 (by decide +kernel) (by decide +kernel), gw 630 (by decide +kernel) (by decide +kernel), ⟨_, _, _, gc3 163 rfl rfl⟩, ⟨by decide +kernel, by decide +kernel, by decide +kernel⟩⟩
theorem lu_needOf_Sh : LU0 RX7 xR_needOf M_Rn_needOf 1 := ⟨cw_Rn_needOf, gw 632 (by decide +kernel) (by decide +kernel), gw 642 (by decide +kernel) (by decide +kernel), gw 630 (by decide +kernel) (by decide +kernel), gw 630 (by decide +kernel) (by decide +kernel), ⟨_, _, _, gc3 163 rfl rfl⟩, ⟨by decide +kernel, by decide +kernel, by decide +kernel⟩⟩
theorem lu_needOf_Em : LU0 RX1 xR_needOf M_Em_needOf 1 := ⟨cw_Em_needOf, gw 632 (by decide +kernel) (by decide +kernel), gw 637 (by decide +kernel) (by decide +kernel), gw 638 (by decide +kernel) (by decide +kernel), gw 630 (by decide +kernel) (by decide +kernel), ⟨_, _, _, gc3 163 rfl rfl⟩, ⟨by decide +kernel, by decide +kernel, by decide +kernel⟩⟩
theorem lu_needOf_Ea : LU0 RX0 xR_needOf M_Ea_needOf 1 := ⟨cw_Ea_needOf, gw 632 (by decide +kernel) (by decide +kernel), gw 633 (by decide +kernel) (by decide +kernel), gw 634 (by decide +kernel) (by decide +kernel), gw 630 (by decide +kernel) (by decide +kernel), ⟨_, _, _, gc3 163 rfl rfl⟩, ⟨by decide +kernel, by decide +kernel, by decide +kernel⟩⟩
theorem lu_needOf_Ex : LU0 RX2 xR_needOf M_Ea_needOf 1 := ⟨cw_Ea_needOf, gw 632 (by decide +kernel) (by decide +kernel), gw 640 (by decide +kernel) (by decide +kernel), gw 634 (by decide +kernel) (by decide +kernel), gw 630 (by decide +kernel) (by decide +kernel), ⟨_, _, _, gc3 163 rfl rfl⟩, ⟨by decide +kernel, by decide +kernel, by decide +kernel⟩⟩
theorem lu_needOf_Hi : LU0 RX3 xR_needOf M_Em_needOf 1 := ⟨cw_Em_needOf, gw 632 (by decide +kernel) (by decide +kernel), gw 641 (by decide +kernel) (by decide +kernel), gw 638 (by decide +kernel) (by decide +kernel), gw 630 (by decide +kernel) (by decide +kernel), ⟨_, _, _, gc3 163 rfl rfl⟩, ⟨by decide +kernel, by decide +kernel, by decide +kernel⟩⟩
theorem lm_FG_210 : Cond.methodLink RX11 210 xR_needOf ∈ lw_good := gw 759 (by decide +kernel) (by decide +kernel)
theorem lm_Tn_199 : Cond.methodLink RX9 199 xR_needOf ∈ lw_good := gw 629 (by decide +kernel) (by decide +kernel)
abbrev xR_fareOf : MethodName := ⟨"FillAndGo$Run", "fareOf", "(I)I"⟩
theorem lu_fareOf_Rn : LU0 RX6 xR_fareOf M_Rn_fareOf 1 := ⟨cw_Rn_fareOf, gw 669 (by decide +kernel) (by decide +kernel), gw 668 (by decide +kernel) (by decide +kernel), gw 667 (by decide +kernel) (by decide +kernel), gw 667 (by decide +kernel) (by decide +kernel), ⟨_, _, _, gc3 201 rfl rfl⟩, ⟨by decide +kernel, by decide +kernel, by decide +kernel⟩⟩
theorem lu_fareOf_Sh : LU0 RX7 xR_fareOf M_Sh_fareOf 1 := ⟨cw_Sh_fareOf, gw 669 (by decide +kernel) (by decide +kernel), gw 678 (by decide +kernel) (by decide +kernel), gw 679 (by decide +kernel) (by decide +kernel), gw 667 (by decide +kernel) (by decide +kernel), ⟨_, _, _, gc3 201 rfl rfl⟩, ⟨by decide +kernel, by decide +kernel, by decide +kernel⟩⟩
theorem lu_fareOf_Em : LU0 RX1 xR_fareOf M_Em_fareOf 1 := ⟨cw_Em_fareOf, gw 669 (by decide +kernel) (by decide +kernel), gw 671 (by decide +kernel) (by decide +kernel), gw 672 (by decide +kernel) (by decide +kernel), gw 667 (by decide +kernel) (by decide +kernel), ⟨_, _, _, gc3 201 rfl rfl⟩, ⟨by decide +kernel, by decide +kernel, by decide +kernel⟩⟩
theorem lu_fareOf_Ea : LU0 RX0 xR_fareOf M_Rn_fareOf 1 := ⟨cw_Rn_fareOf, gw 669 (by decide +kernel) (by decide +kernel), gw 670 (by decide +kernel) (by decide +kernel), gw 667 (by decide +kernel) (by decide +kernel), gw 667 (by decide +kernel) (by decide +kernel), ⟨_, _, _, gc3 201 rfl rfl⟩, ⟨by decide +kernel, by decide +kernel, by decide +kernel⟩⟩
theorem lu_fareOf_Ex : LU0 RX2 xR_fareOf M_Ex_fareOf 1 := ⟨cw_Ex_fareOf, gw 669 (by decide +kernel) (by decide +kernel), gw 674 (by decide +kernel) (by decide +kernel), gw 675 (by decide +kernel) (by decide +kernel), gw 667 (by decide +kernel) (by decide +kernel), ⟨_, _, _, gc3 201 rfl rfl⟩, ⟨by decide +kernel, by decide +kernel, by decide +kernel⟩⟩
theorem lu_fareOf_Hi : LU0 RX3 xR_fareOf M_Hi_fareOf 1 := ⟨cw_Hi_fareOf, gw 669 (by decide +kernel) (by decide +kernel), gw 677 (by decide +kernel) (by decide +kernel), gw 661 (by decide +kernel) (by decide +kernel), gw 667 (by decide +kernel) (by decide +kernel), ⟨_, _, _, gc3 201 rfl rfl⟩, ⟨by decide +kernel, by decide +kernel, by decide +kernel⟩⟩
theorem lm_FG_215 : Cond.methodLink RX11 215 xR_fareOf ∈ lw_good := gw 760 (by decide +kernel) (by decide +kernel)
theorem lm_Rn_18 : Cond.methodLink RX6 18 xR_fareOf ∈ lw_good := gw 666 (by decide +kernel) (by decide +kernel)
abbrev xR_minutesOf : MethodName := ⟨"FillAndGo$Run", "minutesOf", "(I)I"⟩
theorem lu_minutesOf_Rn : LU0 RX6 xR_minutesOf M_Rn_minutesOf 1 := ⟨cw_Rn_minutesOf, gw 690 (by decide +kernel) (by decide +kernel), gw 689 (by decide +kernel) (by decide +kernel), gw 688 (by decide +kernel) (by decide +kernel), gw 688 (by decide +kernel) (by decide +kernel), ⟨_, _, _, gc3 220 rfl rfl⟩, ⟨by decide +kernel, by decide +kernel, by decide +kernel⟩⟩
theorem lu_minutesOf_Sh : LU0 RX7 xR_minutesOf M_Sh_minutesOf 1 := ⟨cw_Sh_minutesOf, gw 690 (by decide +kernel) (by decide +kernel), gw 697 (by decide +kernel) (by decide +kernel), gw 698 (by decide +kernel) (by decide +kernel), gw 688 (by decide +kernel) (by decide +kernel), ⟨_, _, _, gc3 220 rfl rfl⟩, ⟨by decide +kernel, by decide +kernel, by decide +kernel⟩⟩
theorem lu_minutesOf_Em : LU0 RX1 xR_minutesOf M_Rn_minutesOf 1 := ⟨cw_Rn_minutesOf, gw 690 (by decide +kernel) (by decide +kernel), gw 692 (by decide +kernel) (by decide +kernel), gw 688 (by decide +kernel) (by decide +kernel), gw 688 (by decide +kernel) (by decide +kernel), ⟨_, _, _, gc3 220 rfl rfl⟩, ⟨by decide +kernel, by decide +kernel, by decide +kernel⟩⟩
theorem lu_minutesOf_Ea : LU0 RX0 xR_minutesOf M_Rn_minutesOf 1 := ⟨cw_Rn_minutesOf, gw 690 (by decide +kernel) (by decide +kernel), gw 691 (by decide +kernel) (by decide +kernel), gw 688 (by decide +kernel) (by decide +kernel), gw 688 (by decide +kernel) (by decide +kernel), ⟨_, _, _, gc3 220 rfl rfl⟩, ⟨by decide +kernel, by decide +kernel, by decide +kernel⟩⟩
theorem lu_minutesOf_Ex : LU0 RX2 xR_minutesOf M_Rn_minutesOf 1 := ⟨cw_Rn_minutesOf, gw 690 (by decide +kernel) (by decide +kernel), gw 693 (by decide +kernel) (by decide +kernel), gw 688 (by decide +kernel) (by decide +kernel), gw 688 (by decide +kernel) (by decide +kernel), ⟨_, _, _, gc3 220 rfl rfl⟩, ⟨by decide +kernel, by decide +kernel, by decide +kernel⟩⟩
theorem lu_minutesOf_Hi : LU0 RX3 xR_minutesOf M_Hi_minutesOf 1 := ⟨cw_Hi_minutesOf, gw 690 (by decide +kernel) (by decide +kernel), gw 694 (by decide +kernel) (by decide +kernel), gw 695 (by decide +kernel) (by decide +kernel), gw 688 (by decide +kernel) (by decide +kernel), ⟨_, _, _, gc3 220 rfl rfl⟩, ⟨by decide +kernel, by decide +kernel, by decide +kernel⟩⟩
theorem lm_FG_218 : Cond.methodLink RX11 218 xR_minutesOf ∈ lw_good := gw 761 (by decide +kernel) (by decide +kernel)
theorem lm_Tn_221 : Cond.methodLink RX9 221 xR_minutesOf ∈ lw_good := gw 687 (by decide +kernel) (by decide +kernel)
abbrev xR_fuelOf : MethodName := ⟨"FillAndGo$Run", "fuelOf", "(I)I"⟩
theorem lu_fuelOf_Rn : LU0 RX6 xR_fuelOf M_Rn_fuelOf 1 := ⟨cw_Rn_fuelOf, gw 704 (by decide +kernel) (by decide +kernel), gw 703 (by decide +kernel) (by decide +kernel), gw 702 (by decide +kernel) (by decide +kernel), gw 702 (by decide +kernel) (by decide +kernel), ⟨_, _, _, gc3 232 rfl rfl⟩, ⟨by decide +kernel, by decide +kernel, by decide +kernel⟩⟩
theorem lu_fuelOf_Sh : LU0 RX7 xR_fuelOf M_Rn_fuelOf 1 := ⟨cw_Rn_fuelOf, gw 704 (by decide +kernel) (by decide +kernel), gw 711 (by decide +kernel) (by decide +kernel), gw 702 (by decide +kernel) (by decide +kernel), gw 702 (by decide +kernel) (by decide +kernel), ⟨_, _, _, gc3 232 rfl rfl⟩, ⟨by decide +kernel, by decide +kernel, by decide +kernel⟩⟩
theorem lu_fuelOf_Em : LU0 RX1 xR_fuelOf M_Rn_fuelOf 1 := ⟨cw_Rn_fuelOf, gw 704 (by decide +kernel) (by decide +kernel), gw 706 (by decide +kernel) (by decide +kernel), gw 702 (by decide +kernel) (by decide +kernel), gw 702 (by decide +kernel) (by decide +kernel), ⟨_, _, _, gc3 232 rfl rfl⟩, ⟨by decide +kernel, by decide +kernel, by decide +kernel⟩⟩
theorem lu_fuelOf_Ea : LU0 RX0 xR_fuelOf M_Rn_fuelOf 1 := ⟨cw_Rn_fuelOf, gw 704 (by decide +kernel) (by decide +kernel), gw 705 (by decide +kernel) (by decide +kernel), gw 702 (by decide +kernel) (by decide +kernel), gw 702 (by decide +kernel) (by decide +kernel), ⟨_, _, _, gc3 232 rfl rfl⟩, ⟨by decide +kernel, by decide +kernel, by decide +kernel⟩⟩
theorem lu_fuelOf_Ex : LU0 RX2 xR_fuelOf M_Ex_fuelOf 1 := ⟨cw_Ex_fuelOf, gw 704 (by decide +kernel) (by decide +kernel), gw 707 (by decide +kernel) (by decide +kernel), gw 708 (by decide +kernel) (by decide +kernel), gw 702 (by decide +kernel) (by decide +kernel), ⟨_, _, _, gc3 232 rfl rfl⟩, ⟨by decide +kernel, by decide +kernel, by decide +kernel⟩⟩
theorem lu_fuelOf_Hi : LU0 RX3 xR_fuelOf M_Rn_fuelOf 1 := ⟨cw_Rn_fuelOf, gw 704 (by decide +kernel) (by decide +kernel), gw 710 (by decide +kernel) (by decide +kernel), gw 702 (by decide +kernel) (by decide +kernel), gw 702 (by decide +kernel) (by decide +kernel), ⟨_, _, _, gc3 232 rfl rfl⟩, ⟨by decide +kernel, by decide +kernel, by decide +kernel⟩⟩
theorem lm_FG_221 : Cond.methodLink RX11 221 xR_fuelOf ∈ lw_good := gw 762 (by decide +kernel) (by decide +kernel)
theorem lm_Tn_230 : Cond.methodLink RX9 230 xR_fuelOf ∈ lw_good := gw 701 (by decide +kernel) (by decide +kernel)
abbrev xR_takings : MethodName := ⟨"FillAndGo$Run", "takings", "(II)I"⟩
theorem lu_takings_Rn : LU0 RX6 xR_takings M_Rn_takings 2 := ⟨cw_Rn_takings, gw 653 (by decide +kernel) (by decide +kernel), gw 652 (by decide +kernel) (by decide +kernel), gw 651 (by decide +kernel) (by decide +kernel), gw 651 (by decide +kernel) (by decide +kernel), ⟨_, _, _, gc3 185 rfl rfl⟩, ⟨by decide +kernel, by decide +kernel, by decide +kernel⟩⟩
theorem lu_takings_Sh : LU0 RX7 xR_takings M_Rn_takings 2 := ⟨cw_Rn_takings, gw 653 (by decide +kernel) (by decide +kernel), gw 664 (by decide +kernel) (by decide +kernel), gw 651 (by decide +kernel) (by decide +kernel), gw 651 (by decide +kernel) (by decide +kernel), ⟨_, _, _, gc3 185 rfl rfl⟩, ⟨by decide +kernel, by decide +kernel, by decide +kernel⟩⟩
theorem lu_takings_Em : LU0 RX1 xR_takings M_Rn_takings 2 := ⟨cw_Rn_takings, gw 653 (by decide +kernel) (by decide +kernel), gw 655 (by decide +kernel) (by decide +kernel), gw 651 (by decide +kernel) (by decide +kernel), gw 651 (by decide +kernel) (by decide +kernel), ⟨_, _, _, gc3 185 rfl rfl⟩, ⟨by decide +kernel, by decide +kernel, by decide +kernel⟩⟩
theorem lu_takings_Ea : LU0 RX0 xR_takings M_Rn_takings 2 := ⟨cw_Rn_takings, gw 653 (by decide +kernel) (by decide +kernel), gw 654 (by decide +kernel) (by decide +kernel), gw 651 (by decide +kernel) (by decide +kernel), gw 651 (by decide +kernel) (by decide +kernel), ⟨_, _, _, gc3 185 rfl rfl⟩, ⟨by decide +kernel, by decide +kernel, by decide +kernel⟩⟩
theorem lu_takings_Ex : LU0 RX2 xR_takings M_Rn_takings 2 := ⟨cw_Rn_takings, gw 653 (by decide +kernel) (by decide +kernel), gw 656 (by decide +kernel) (by decide +kernel), gw 651 (by decide +kernel) (by decide +kernel), gw 651 (by decide +kernel) (by decide +kernel), ⟨_, _, _, gc3 185 rfl rfl⟩, ⟨by decide +kernel, by decide +kernel, by decide +kernel⟩⟩
theorem lu_takings_Hi : LU0 RX3 xR_takings M_Hi_takings 2 := ⟨cw_Hi_takings, gw 653 (by decide +kernel) (by decide +kernel), gw 657 (by decide +kernel) (by decide +kernel), gw 658 (by decide +kernel) (by decide +kernel), gw 651 (by decide +kernel) (by decide +kernel), ⟨_, _, _, gc3 185 rfl rfl⟩, ⟨by decide +kernel, by decide +kernel, by decide +kernel⟩⟩
theorem lm_Tn_218 : Cond.methodLink RX9 218 xR_takings ∈ lw_good := gw 650 (by decide +kernel) (by decide +kernel)
abbrev xR_carries : MethodName := ⟨"FillAndGo$Run", "carries", "()Z"⟩
theorem lu_carries_Rn : LU0 RX6 xR_carries M_Rn_carries 0 := ⟨cw_Rn_carries, gw 611 (by decide +kernel) (by decide +kernel), gw 610 (by decide +kernel) (by decide +kernel), gw 609 (by decide +kernel) (by decide +kernel), gw 609 (by decide +kernel) (by decide +kernel), ⟨_, _, _, gc3 139 rfl rfl⟩, ⟨by decide +kernel, by decide +kernel, by decide +kernel⟩⟩
theorem lu_carries_Sh : LU0 RX7 xR_carries M_Rn_carries 0 := ⟨cw_Rn_carries, gw 611 (by decide +kernel) (by decide +kernel), gw 618 (by decide +kernel) (by decide +kernel), gw 609 (by decide +kernel) (by decide +kernel), gw 609 (by decide +kernel) (by decide +kernel), ⟨_, _, _, gc3 139 rfl rfl⟩, ⟨by decide +kernel, by decide +kernel, by decide +kernel⟩⟩
theorem lu_carries_Em : LU0 RX1 xR_carries M_Em_carries 0 := ⟨cw_Em_carries, gw 611 (by decide +kernel) (by decide +kernel), gw 613 (by decide +kernel) (by decide +kernel), gw 614 (by decide +kernel) (by decide +kernel), gw 609 (by decide +kernel) (by decide +kernel), ⟨_, _, _, gc3 139 rfl rfl⟩, ⟨by decide +kernel, by decide +kernel, by decide +kernel⟩⟩
theorem lu_carries_Ea : LU0 RX0 xR_carries M_Rn_carries 0 := ⟨cw_Rn_carries, gw 611 (by decide +kernel) (by decide +kernel), gw 612 (by decide +kernel) (by decide +kernel), gw 609 (by decide +kernel) (by decide +kernel), gw 609 (by decide +kernel) (by decide +kernel), ⟨_, _, _, gc3 139 rfl rfl⟩, ⟨by decide +kernel, by decide +kernel, by decide +kernel⟩⟩
theorem lu_carries_Ex : LU0 RX2 xR_carries M_Rn_carries 0 := ⟨cw_Rn_carries, gw 611 (by decide +kernel) (by decide +kernel), gw 616 (by decide +kernel) (by decide +kernel), gw 609 (by decide +kernel) (by decide +kernel), gw 609 (by decide +kernel) (by decide +kernel), ⟨_, _, _, gc3 139 rfl rfl⟩, ⟨by decide +kernel, by decide +kernel, by decide +kernel⟩⟩
theorem lu_carries_Hi : LU0 RX3 xR_carries M_Em_carries 0 := ⟨cw_Em_carries, gw 611 (by decide +kernel) (by decide +kernel), gw 617 (by decide +kernel) (by decide +kernel), gw 614 (by decide +kernel) (by decide +kernel), gw 609 (by decide +kernel) (by decide +kernel), ⟨_, _, _, gc3 139 rfl rfl⟩, ⟨by decide +kernel, by decide +kernel, by decide +kernel⟩⟩
theorem lm_Tn_185 : Cond.methodLink RX9 185 xR_carries ∈ lw_good := gw 608 (by decide +kernel) (by decide +kernel)
abbrev xR_turnsBack : MethodName := ⟨"FillAndGo$Run", "turnsBack", "()Z"⟩
theorem lu_turnsBack_Rn : LU0 RX6 xR_turnsBack M_Rn_turnsBack 0 := ⟨cw_Rn_turnsBack, gw 724 (by decide +kernel) (by decide +kernel), gw 723 (by decide +kernel) (by decide +kernel), gw 722 (by decide +kernel) (by decide +kernel), gw 722 (by decide +kernel) (by decide +kernel), ⟨_, _, _, gc4 12 rfl rfl⟩, ⟨by decide +kernel, by decide +kernel, by decide +kernel⟩⟩
theorem lu_turnsBack_Sh : LU0 RX7 xR_turnsBack M_Sh_turnsBack 0 := ⟨cw_Sh_turnsBack, gw 724 (by decide +kernel) (by decide +kernel), gw 729 (by decide +kernel) (by decide +kernel), gw 730 (by decide +kernel) (by decide +kernel), gw 722 (by decide +kernel) (by decide +kernel), ⟨_, _, _, gc4 12 rfl rfl⟩, ⟨by decide +kernel, by decide +kernel, by decide +kernel⟩⟩
theorem lu_turnsBack_Em : LU0 RX1 xR_turnsBack M_Rn_turnsBack 0 := ⟨cw_Rn_turnsBack, gw 724 (by decide +kernel) (by decide +kernel), gw 726 (by decide +kernel) (by decide +kernel), gw 722 (by decide +kernel) (by decide +kernel), gw 722 (by decide +kernel) (by decide +kernel), ⟨_, _, _, gc4 12 rfl rfl⟩, ⟨by decide +kernel, by decide +kernel, by decide +kernel⟩⟩
theorem lu_turnsBack_Ea : LU0 RX0 xR_turnsBack M_Rn_turnsBack 0 := ⟨cw_Rn_turnsBack, gw 724 (by decide +kernel) (by decide +kernel), gw 725 (by decide +kernel) (by decide +kernel), gw 722 (by decide +kernel) (by decide +kernel), gw 722 (by decide +kernel) (by decide +kernel), ⟨_, _, _, gc4 12 rfl rfl⟩, ⟨by decide +kernel, by decide +kernel, by decide +kernel⟩⟩
theorem lu_turnsBack_Ex : LU0 RX2 xR_turnsBack M_Rn_turnsBack 0 := ⟨cw_Rn_turnsBack, gw 724 (by decide +kernel) (by decide +kernel), gw 727 (by decide +kernel) (by decide +kernel), gw 722 (by decide +kernel) (by decide +kernel), gw 722 (by decide +kernel) (by decide +kernel), ⟨_, _, _, gc4 12 rfl rfl⟩, ⟨by decide +kernel, by decide +kernel, by decide +kernel⟩⟩
theorem lu_turnsBack_Hi : LU0 RX3 xR_turnsBack M_Rn_turnsBack 0 := ⟨cw_Rn_turnsBack, gw 724 (by decide +kernel) (by decide +kernel), gw 728 (by decide +kernel) (by decide +kernel), gw 722 (by decide +kernel) (by decide +kernel), gw 722 (by decide +kernel) (by decide +kernel), ⟨_, _, _, gc4 12 rfl rfl⟩, ⟨by decide +kernel, by decide +kernel, by decide +kernel⟩⟩
theorem lm_Tn_239 : Cond.methodLink RX9 239 xR_turnsBack ∈ lw_good := gw 721 (by decide +kernel) (by decide +kernel)
abbrev xR_isOf : MethodName := ⟨"FillAndGo$Run", "isOf", "(I)Z"⟩
theorem lu_isOf_Rn : LU0 RX6 xR_isOf M_Rn_isOf 1 := ⟨cw_Rn_isOf, gw 922 (by decide +kernel) (by decide +kernel), gw 921 (by decide +kernel) (by decide +kernel), gw 920 (by decide +kernel) (by decide +kernel), gw 920 (by decide +kernel) (by decide +kernel), ⟨_, _, _, gc4 223 rfl rfl⟩, ⟨by decide +kernel, by decide +kernel, by decide +kernel⟩⟩
theorem lu_isOf_Sh : LU0 RX7 xR_isOf M_Sh_isOf 1 := ⟨cw_Sh_isOf, gw 922 (by decide +kernel) (by decide +kernel), gw 939 (by decide +kernel) (by decide +kernel), gw 940 (by decide +kernel) (by decide +kernel), gw 920 (by decide +kernel) (by decide +kernel), ⟨_, _, _, gc4 223 rfl rfl⟩, ⟨by decide +kernel, by decide +kernel, by decide +kernel⟩⟩
theorem lu_isOf_Em : LU0 RX1 xR_isOf M_Em_isOf 1 := ⟨cw_Em_isOf, gw 922 (by decide +kernel) (by decide +kernel), gw 927 (by decide +kernel) (by decide +kernel), gw 928 (by decide +kernel) (by decide +kernel), gw 920 (by decide +kernel) (by decide +kernel), ⟨_, _, _, gc4 223 rfl rfl⟩, ⟨by decide +kernel, by decide +kernel, by decide +kernel⟩⟩
theorem lu_isOf_Ea : LU0 RX0 xR_isOf M_Ea_isOf 1 := ⟨cw_Ea_isOf, gw 922 (by decide +kernel) (by decide +kernel), gw 923 (by decide +kernel) (by decide +kernel), gw 924 (by decide +kernel) (by decide +kernel), gw 920 (by decide +kernel) (by decide +kernel), ⟨_, _, _, gc4 223 rfl rfl⟩, ⟨by decide +kernel, by decide +kernel, by decide +kernel⟩⟩
theorem lu_isOf_Ex : LU0 RX2 xR_isOf M_Ex_isOf 1 := ⟨cw_Ex_isOf, gw 922 (by decide +kernel) (by decide +kernel), gw 931 (by decide +kernel) (by decide +kernel), gw 932 (by decide +kernel) (by decide +kernel), gw 920 (by decide +kernel) (by decide +kernel), ⟨_, _, _, gc4 223 rfl rfl⟩, ⟨by decide +kernel, by decide +kernel, by decide +kernel⟩⟩
theorem lu_isOf_Hi : LU0 RX3 xR_isOf M_Hi_isOf 1 := ⟨cw_Hi_isOf, gw 922 (by decide +kernel) (by decide +kernel), gw 935 (by decide +kernel) (by decide +kernel), gw 936 (by decide +kernel) (by decide +kernel), gw 920 (by decide +kernel) (by decide +kernel), ⟨_, _, _, gc4 223 rfl rfl⟩, ⟨by decide +kernel, by decide +kernel, by decide +kernel⟩⟩
theorem lm_FG_313 : Cond.methodLink RX11 313 xR_isOf ∈ lw_good := gw 919 (by decide +kernel) (by decide +kernel)
theorem kisE_0 {v : Int32} : (if v = 0 then nI 1 else nI 0) = kIs 0 v := by
  have e : (v = 0 ∨ v = nI 0 ∨ (v = nI 2 ∧ 0 = 5) ∨ (v = nI 3 ∧ 0 = 4)) ↔ (v = 0) := by
    have h0 : nI 0 = 0 := nI_0
    constructor
    · intro z
      rcases z with z | z | z | z
      · simp [z]
      · simp [z, h0]
      · first | exact absurd z.2 (by decide) | simp [z.1]
      · first | exact absurd z.2 (by decide) | simp [z.1]
    · intro z
      try simp only [h0]
      first
        | (rcases z with z | z | z <;> simp [z, h0]; done)
        | (rcases z with z | z <;> simp [z, h0]; done)
        | (simp [z, h0]; done)
  unfold kIs
  by_cases z : v = 0
  · rw [if_pos z, if_pos (e.mpr z)]
  · rw [if_neg z, if_neg (fun y => z (e.mp y))]
theorem kisE_1 {v : Int32} : (if v = nI 1 ∨ v = 0 then nI 1 else nI 0) = kIs 1 v := by
  have e : (v = 0 ∨ v = nI 1 ∨ (v = nI 2 ∧ 1 = 5) ∨ (v = nI 3 ∧ 1 = 4)) ↔ (v = nI 1 ∨ v = 0) := by
    have h0 : nI 0 = 0 := nI_0
    constructor
    · intro z
      rcases z with z | z | z | z
      · simp [z]
      · simp [z, h0]
      · first | exact absurd z.2 (by decide) | simp [z.1]
      · first | exact absurd z.2 (by decide) | simp [z.1]
    · intro z
      try simp only [h0]
      first
        | (rcases z with z | z | z <;> simp [z, h0]; done)
        | (rcases z with z | z <;> simp [z, h0]; done)
        | (simp [z, h0]; done)
  unfold kIs
  by_cases z : v = nI 1 ∨ v = 0
  · rw [if_pos z, if_pos (e.mpr z)]
  · rw [if_neg z, if_neg (fun y => z (e.mp y))]
theorem kisE_2 {v : Int32} : (if v = nI 2 ∨ v = 0 then nI 1 else nI 0) = kIs 2 v := by
  have e : (v = 0 ∨ v = nI 2 ∨ (v = nI 2 ∧ 2 = 5) ∨ (v = nI 3 ∧ 2 = 4)) ↔ (v = nI 2 ∨ v = 0) := by
    have h0 : nI 0 = 0 := nI_0
    constructor
    · intro z
      rcases z with z | z | z | z
      · simp [z]
      · simp [z, h0]
      · first | exact absurd z.2 (by decide) | simp [z.1]
      · first | exact absurd z.2 (by decide) | simp [z.1]
    · intro z
      try simp only [h0]
      first
        | (rcases z with z | z | z <;> simp [z, h0]; done)
        | (rcases z with z | z <;> simp [z, h0]; done)
        | (simp [z, h0]; done)
  unfold kIs
  by_cases z : v = nI 2 ∨ v = 0
  · rw [if_pos z, if_pos (e.mpr z)]
  · rw [if_neg z, if_neg (fun y => z (e.mp y))]
theorem kisE_3 {v : Int32} : (if v = nI 3 ∨ v = 0 then nI 1 else nI 0) = kIs 3 v := by
  have e : (v = 0 ∨ v = nI 3 ∨ (v = nI 2 ∧ 3 = 5) ∨ (v = nI 3 ∧ 3 = 4)) ↔ (v = nI 3 ∨ v = 0) := by
    have h0 : nI 0 = 0 := nI_0
    constructor
    · intro z
      rcases z with z | z | z | z
      · simp [z]
      · simp [z, h0]
      · first | exact absurd z.2 (by decide) | simp [z.1]
      · first | exact absurd z.2 (by decide) | simp [z.1]
    · intro z
      try simp only [h0]
      first
        | (rcases z with z | z | z <;> simp [z, h0]; done)
        | (rcases z with z | z <;> simp [z, h0]; done)
        | (simp [z, h0]; done)
  unfold kIs
  by_cases z : v = nI 3 ∨ v = 0
  · rw [if_pos z, if_pos (e.mpr z)]
  · rw [if_neg z, if_neg (fun y => z (e.mp y))]
theorem kisE_4 {v : Int32} : (if v = nI 4 ∨ (v = nI 3 ∨ v = 0) then nI 1 else nI 0) = kIs 4 v := by
  have e : (v = 0 ∨ v = nI 4 ∨ (v = nI 2 ∧ 4 = 5) ∨ (v = nI 3 ∧ 4 = 4)) ↔ (v = nI 4 ∨ (v = nI 3 ∨ v = 0)) := by
    have h0 : nI 0 = 0 := nI_0
    constructor
    · intro z
      rcases z with z | z | z | z
      · simp [z]
      · simp [z, h0]
      · first | exact absurd z.2 (by decide) | simp [z.1]
      · first | exact absurd z.2 (by decide) | simp [z.1]
    · intro z
      try simp only [h0]
      first
        | (rcases z with z | z | z <;> simp [z, h0]; done)
        | (rcases z with z | z <;> simp [z, h0]; done)
        | (simp [z, h0]; done)
  unfold kIs
  by_cases z : v = nI 4 ∨ (v = nI 3 ∨ v = 0)
  · rw [if_pos z, if_pos (e.mpr z)]
  · rw [if_neg z, if_neg (fun y => z (e.mp y))]
theorem kisE_5 {v : Int32} : (if v = nI 5 ∨ (v = nI 2 ∨ v = 0) then nI 1 else nI 0) = kIs 5 v := by
  have e : (v = 0 ∨ v = nI 5 ∨ (v = nI 2 ∧ 5 = 5) ∨ (v = nI 3 ∧ 5 = 4)) ↔ (v = nI 5 ∨ (v = nI 2 ∨ v = 0)) := by
    have h0 : nI 0 = 0 := nI_0
    constructor
    · intro z
      rcases z with z | z | z | z
      · simp [z]
      · simp [z, h0]
      · first | exact absurd z.2 (by decide) | simp [z.1]
      · first | exact absurd z.2 (by decide) | simp [z.1]
    · intro z
      try simp only [h0]
      first
        | (rcases z with z | z | z <;> simp [z, h0]; done)
        | (rcases z with z | z <;> simp [z, h0]; done)
        | (simp [z, h0]; done)
  unfold kIs
  by_cases z : v = nI 5 ∨ (v = nI 2 ∨ v = 0)
  · rw [if_pos z, if_pos (e.mpr z)]
  · rw [if_neg z, if_neg (fun y => z (e.mp y))]
section WV
variable {D : xD} {N : Nat} {l : Launch} {E : EX} {M : MD} {R : Room} {Qf : QF} {kk n pc : Nat} {L : List (Nat × Value)} {st : List Value} {g : List va_E}
set_option maxHeartbeats 1000000 in
theorem wp_v_needOf {q d idx k : Nat} {v : Int32} (hl : Cond.methodLink M.1.cls idx xR_needOf ∈ lw_good) (hR : RO R (d + 3)) (hd : decode M.2.1 pc = .ok (.invokevirtual idx, 3)) (hq : pc + 3 = q) (hcat : (st.map fun v => v.category).sum ≤ 8) (hk : k < 6) (hG : g[15 + k]? = some (.inr (kci k, []))) (hc : kk ≤ R.cells) (hs : n ≤ R.slots) (h : Wp D N l E M R Qf kk n q L (.int (kNeed k v) :: st) g) : Wp D N l E M R Qf kk n pc L (.int v :: .ref (N + (15 + k)) :: st) g := by
  rcases (show k = 0 ∨ k = 1 ∨ k = 2 ∨ k = 3 ∨ k = 4 ∨ k = 5 by omega) with rfl | rfl | rfl | rfl | rfl | rfl
  · exact wp_cu1 (lu_needOf_Rn.to hl) hR hd hq hcat hG rfl hc hs (ok_Rn_needOf h)
  · exact wp_cu1 (lu_needOf_Sh.to hl) hR hd hq hcat hG rfl hc hs (ok_Rn_needOf h)
  · exact wp_cu1 (lu_needOf_Em.to hl) hR hd hq hcat hG rfl hc hs (ok_Em_needOf h)
  · exact wp_cu1 (lu_needOf_Ea.to hl) hR hd hq hcat hG rfl hc hs (ok_Ea_needOf hG h)
  · exact wp_cu1 (lu_needOf_Ex.to hl) hR hd hq hcat hG rfl hc hs (ok_Ea_needOf hG h)
  · exact wp_cu1 (lu_needOf_Hi.to hl) hR hd hq hcat hG rfl hc hs (ok_Em_needOf h)
end WV
section WV
variable {D : xD} {N : Nat} {l : Launch} {E : EX} {M : MD} {R : Room} {Qf : QF} {kk n pc : Nat} {L : List (Nat × Value)} {st : List Value} {g : List va_E}
set_option maxHeartbeats 1000000 in
theorem wp_v_fareOf {q d idx k : Nat} {v : Int32} (hl : Cond.methodLink M.1.cls idx xR_fareOf ∈ lw_good) (hR : RO R (d + 1)) (hd : decode M.2.1 pc = .ok (.invokevirtual idx, 3)) (hq : pc + 3 = q) (hcat : (st.map fun v => v.category).sum ≤ 8) (hk : k < 6) (hG : g[15 + k]? = some (.inr (kci k, []))) (hc : kk ≤ R.cells) (hs : n ≤ R.slots) (h : Wp D N l E M R Qf kk n q L (.int (kFare k v) :: st) g) : Wp D N l E M R Qf kk n pc L (.int v :: .ref (N + (15 + k)) :: st) g := by
  rcases (show k = 0 ∨ k = 1 ∨ k = 2 ∨ k = 3 ∨ k = 4 ∨ k = 5 by omega) with rfl | rfl | rfl | rfl | rfl | rfl
  · exact wp_cu1 (lu_fareOf_Rn.to hl) hR hd hq hcat hG rfl hc hs (ok_Rn_fareOf h)
  · exact wp_cu1 (lu_fareOf_Sh.to hl) hR hd hq hcat hG rfl hc hs (ok_Sh_fareOf h)
  · exact wp_cu1 (lu_fareOf_Em.to hl) hR hd hq hcat hG rfl hc hs (ok_Em_fareOf h)
  · exact wp_cu1 (lu_fareOf_Ea.to hl) hR hd hq hcat hG rfl hc hs (ok_Rn_fareOf h)
  · exact wp_cu1 (lu_fareOf_Ex.to hl) hR hd hq hcat hG rfl hc hs (ok_Ex_fareOf h)
  · exact wp_cu1 (lu_fareOf_Hi.to hl) hR hd hq hcat hG rfl hc hs (ok_Hi_fareOf h)
end WV
section WV
variable {D : xD} {N : Nat} {l : Launch} {E : EX} {M : MD} {R : Room} {Qf : QF} {kk n pc : Nat} {L : List (Nat × Value)} {st : List Value} {g : List va_E}
set_option maxHeartbeats 1000000 in
theorem wp_v_minutesOf {q d idx k : Nat} {v : Int32} (hl : Cond.methodLink M.1.cls idx xR_minutesOf ∈ lw_good) (hR : RO R (d + 1)) (hd : decode M.2.1 pc = .ok (.invokevirtual idx, 3)) (hq : pc + 3 = q) (hcat : (st.map fun v => v.category).sum ≤ 8) (hk : k < 6) (hG : g[15 + k]? = some (.inr (kci k, []))) (hc : kk ≤ R.cells) (hs : n ≤ R.slots) (h : Wp D N l E M R Qf kk n q L (.int (kMin k v) :: st) g) : Wp D N l E M R Qf kk n pc L (.int v :: .ref (N + (15 + k)) :: st) g := by
  rcases (show k = 0 ∨ k = 1 ∨ k = 2 ∨ k = 3 ∨ k = 4 ∨ k = 5 by omega) with rfl | rfl | rfl | rfl | rfl | rfl
  · exact wp_cu1 (lu_minutesOf_Rn.to hl) hR hd hq hcat hG rfl hc hs (ok_Rn_minutesOf h)
  · exact wp_cu1 (lu_minutesOf_Sh.to hl) hR hd hq hcat hG rfl hc hs (ok_Sh_minutesOf h)
  · exact wp_cu1 (lu_minutesOf_Em.to hl) hR hd hq hcat hG rfl hc hs (ok_Rn_minutesOf h)
  · exact wp_cu1 (lu_minutesOf_Ea.to hl) hR hd hq hcat hG rfl hc hs (ok_Rn_minutesOf h)
  · exact wp_cu1 (lu_minutesOf_Ex.to hl) hR hd hq hcat hG rfl hc hs (ok_Rn_minutesOf h)
  · exact wp_cu1 (lu_minutesOf_Hi.to hl) hR hd hq hcat hG rfl hc hs (ok_Hi_minutesOf h)
end WV
section WV
variable {D : xD} {N : Nat} {l : Launch} {E : EX} {M : MD} {R : Room} {Qf : QF} {kk n pc : Nat} {L : List (Nat × Value)} {st : List Value} {g : List va_E}
set_option maxHeartbeats 1000000 in
theorem wp_v_fuelOf {q d idx k : Nat} {v : Int32} (hl : Cond.methodLink M.1.cls idx xR_fuelOf ∈ lw_good) (hR : RO R (d + 1)) (hd : decode M.2.1 pc = .ok (.invokevirtual idx, 3)) (hq : pc + 3 = q) (hcat : (st.map fun v => v.category).sum ≤ 8) (hk : k < 6) (hG : g[15 + k]? = some (.inr (kci k, []))) (hc : kk ≤ R.cells) (hs : n ≤ R.slots) (h : Wp D N l E M R Qf kk n q L (.int (kFuel k v) :: st) g) : Wp D N l E M R Qf kk n pc L (.int v :: .ref (N + (15 + k)) :: st) g := by
  rcases (show k = 0 ∨ k = 1 ∨ k = 2 ∨ k = 3 ∨ k = 4 ∨ k = 5 by omega) with rfl | rfl | rfl | rfl | rfl | rfl
  · exact wp_cu1 (lu_fuelOf_Rn.to hl) hR hd hq hcat hG rfl hc hs (ok_Rn_fuelOf h)
  · exact wp_cu1 (lu_fuelOf_Sh.to hl) hR hd hq hcat hG rfl hc hs (ok_Rn_fuelOf h)
  · exact wp_cu1 (lu_fuelOf_Em.to hl) hR hd hq hcat hG rfl hc hs (ok_Rn_fuelOf h)
  · exact wp_cu1 (lu_fuelOf_Ea.to hl) hR hd hq hcat hG rfl hc hs (ok_Rn_fuelOf h)
  · exact wp_cu1 (lu_fuelOf_Ex.to hl) hR hd hq hcat hG rfl hc hs (ok_Ex_fuelOf h)
  · exact wp_cu1 (lu_fuelOf_Hi.to hl) hR hd hq hcat hG rfl hc hs (ok_Rn_fuelOf h)
end WV
section WV
variable {D : xD} {N : Nat} {l : Launch} {E : EX} {M : MD} {R : Room} {Qf : QF} {kk n pc : Nat} {L : List (Nat × Value)} {st : List Value} {g : List va_E}
set_option maxHeartbeats 1000000 in
theorem wp_v_carries {q d idx k : Nat} (hl : Cond.methodLink M.1.cls idx xR_carries ∈ lw_good) (hR : RO R (d + 1)) (hd : decode M.2.1 pc = .ok (.invokevirtual idx, 3)) (hq : pc + 3 = q) (hcat : (st.map fun v => v.category).sum ≤ 8) (hk : k < 6) (hG : g[15 + k]? = some (.inr (kci k, []))) (hc : kk ≤ R.cells) (hs : n ≤ R.slots) (h : Wp D N l E M R Qf kk n q L (.int (kCar k) :: st) g) : Wp D N l E M R Qf kk n pc L (.ref (N + (15 + k)) :: st) g := by
  rcases (show k = 0 ∨ k = 1 ∨ k = 2 ∨ k = 3 ∨ k = 4 ∨ k = 5 by omega) with rfl | rfl | rfl | rfl | rfl | rfl
  · exact wp_cu0 (lu_carries_Rn.to hl) hR hd hq hcat hG rfl hc hs (ok_Rn_carries h)
  · exact wp_cu0 (lu_carries_Sh.to hl) hR hd hq hcat hG rfl hc hs (ok_Rn_carries h)
  · exact wp_cu0 (lu_carries_Em.to hl) hR hd hq hcat hG rfl hc hs (ok_Em_carries h)
  · exact wp_cu0 (lu_carries_Ea.to hl) hR hd hq hcat hG rfl hc hs (ok_Rn_carries h)
  · exact wp_cu0 (lu_carries_Ex.to hl) hR hd hq hcat hG rfl hc hs (ok_Rn_carries h)
  · exact wp_cu0 (lu_carries_Hi.to hl) hR hd hq hcat hG rfl hc hs (ok_Em_carries h)
end WV
section WV
variable {D : xD} {N : Nat} {l : Launch} {E : EX} {M : MD} {R : Room} {Qf : QF} {kk n pc : Nat} {L : List (Nat × Value)} {st : List Value} {g : List va_E}
set_option maxHeartbeats 1000000 in
theorem wp_v_turnsBack {q d idx k : Nat} (hl : Cond.methodLink M.1.cls idx xR_turnsBack ∈ lw_good) (hR : RO R (d + 1)) (hd : decode M.2.1 pc = .ok (.invokevirtual idx, 3)) (hq : pc + 3 = q) (hcat : (st.map fun v => v.category).sum ≤ 8) (hk : k < 6) (hG : g[15 + k]? = some (.inr (kci k, []))) (hc : kk ≤ R.cells) (hs : n ≤ R.slots) (h : Wp D N l E M R Qf kk n q L (.int (kTurn k) :: st) g) : Wp D N l E M R Qf kk n pc L (.ref (N + (15 + k)) :: st) g := by
  rcases (show k = 0 ∨ k = 1 ∨ k = 2 ∨ k = 3 ∨ k = 4 ∨ k = 5 by omega) with rfl | rfl | rfl | rfl | rfl | rfl
  · exact wp_cu0 (lu_turnsBack_Rn.to hl) hR hd hq hcat hG rfl hc hs (ok_Rn_turnsBack h)
  · exact wp_cu0 (lu_turnsBack_Sh.to hl) hR hd hq hcat hG rfl hc hs (ok_Sh_turnsBack h)
  · exact wp_cu0 (lu_turnsBack_Em.to hl) hR hd hq hcat hG rfl hc hs (ok_Rn_turnsBack h)
  · exact wp_cu0 (lu_turnsBack_Ea.to hl) hR hd hq hcat hG rfl hc hs (ok_Rn_turnsBack h)
  · exact wp_cu0 (lu_turnsBack_Ex.to hl) hR hd hq hcat hG rfl hc hs (ok_Rn_turnsBack h)
  · exact wp_cu0 (lu_turnsBack_Hi.to hl) hR hd hq hcat hG rfl hc hs (ok_Rn_turnsBack h)
end WV
section WV
variable {D : xD} {N : Nat} {l : Launch} {E : EX} {M : MD} {R : Room} {Qf : QF} {kk n pc : Nat} {L : List (Nat × Value)} {st : List Value} {g : List va_E}
set_option maxHeartbeats 1000000 in
theorem wp_v_isOf {q d idx k : Nat} {v : Int32} (hl : Cond.methodLink M.1.cls idx xR_isOf ∈ lw_good) (hR : RO R (d + 3)) (hd : decode M.2.1 pc = .ok (.invokevirtual idx, 3)) (hq : pc + 3 = q) (hcat : (st.map fun v => v.category).sum ≤ 8) (hk : k < 6) (hG : g[15 + k]? = some (.inr (kci k, []))) (hc : kk ≤ R.cells) (hs : n ≤ R.slots) (h : Wp D N l E M R Qf kk n q L (.int (kIs k v) :: st) g) : Wp D N l E M R Qf kk n pc L (.int v :: .ref (N + (15 + k)) :: st) g := by
  rcases (show k = 0 ∨ k = 1 ∨ k = 2 ∨ k = 3 ∨ k = 4 ∨ k = 5 by omega) with rfl | rfl | rfl | rfl | rfl | rfl
  · exact wp_cu1 (lu_isOf_Rn.to hl) hR hd hq hcat hG rfl hc hs (ok_Rn_isOf (by rw [kisE_0]; exact h))
  · exact wp_cu1 (lu_isOf_Sh.to hl) hR hd hq hcat hG rfl hc hs (ok_Sh_isOf hG (by rw [kisE_1]; exact h))
  · exact wp_cu1 (lu_isOf_Em.to hl) hR hd hq hcat hG rfl hc hs (ok_Em_isOf hG (by rw [kisE_2]; exact h))
  · exact wp_cu1 (lu_isOf_Ea.to hl) hR hd hq hcat hG rfl hc hs (ok_Ea_isOf hG (by rw [kisE_3]; exact h))
  · exact wp_cu1 (lu_isOf_Ex.to hl) hR hd hq hcat hG rfl hc hs (ok_Ex_isOf hG (by rw [kisE_4]; exact h))
  · exact wp_cu1 (lu_isOf_Hi.to hl) hR hd hq hcat hG rfl hc hs (ok_Hi_isOf hG (by rw [kisE_5]; exact h))
end WV
theorem d_Rn_takings_0 : decode M_Rn_takings.2.1 0 = .ok (.aload_n 0, 1) := by decide +kernel
theorem d_Rn_takings_1 : decode M_Rn_takings.2.1 1 = .ok (.iload_n 1, 1) := by decide +kernel
theorem d_Rn_takings_2 : decode M_Rn_takings.2.1 2 = .ok (.invokevirtual 18, 3) := by decide +kernel
theorem d_Rn_takings_5 : decode M_Rn_takings.2.1 5 = .ok (.iload_n 2, 1) := by decide +kernel
theorem d_Rn_takings_6 : decode M_Rn_takings.2.1 6 = .ok (.imul, 1) := by decide +kernel
theorem d_Rn_takings_7 : decode M_Rn_takings.2.1 7 = .ok (.ireturn, 1) := by decide +kernel
theorem d_Hi_takings_0 : decode M_Hi_takings.2.1 0 = .ok (.aload_n 0, 1) := by decide +kernel
theorem d_Hi_takings_1 : decode M_Hi_takings.2.1 1 = .ok (.iload_n 1, 1) := by decide +kernel
theorem d_Hi_takings_2 : decode M_Hi_takings.2.1 2 = .ok (.invokevirtual 9, 3) := by decide +kernel
theorem d_Hi_takings_5 : decode M_Hi_takings.2.1 5 = .ok (.ireturn, 1) := by decide +kernel
set_option maxHeartbeats 4000000 in
set_option maxRecDepth 100000 in
theorem ok_Rn_takings_0 {D : xD} {N : Nat} {l : Launch} {d : Nat} {g : List va_E} {K : Option Value → List va_E → Prop} {v s2 : Int32} (hr : g[15 + 0]? = some (.inr (kci 0, []))) (hK : K (some (.int (kTake 0 v s2))) g) : Ok D N l (d + 2) M_Rn_takings [.ref (N + (15 + 0)), .int v, .int s2] g 0 0 K := by
  refine ok_of (L := [(0, _), (1, _), (2, _)]) (by decide) (Nat.le_of_ble_eq_true rfl) rfl ?_
  refine wp_aload_n d_Rn_takings_0 rfl rfl ?_
  refine wp_iload_n d_Rn_takings_1 rfl rfl ?_
  refine wp_v_fareOf (k := 0) lm_Rn_18 (ro _ _ _) d_Rn_takings_2 rfl (Nat.le_of_ble_eq_true rfl) (by decide) hr (Nat.zero_le _) (Nat.zero_le _) ?_
  refine wp_iload_n d_Rn_takings_5 rfl rfl ?_
  refine wp_imul d_Rn_takings_6 rfl ?_
  refine wp_iret d_Rn_takings_7 rfl (Nat.le_refl _) (Nat.le_refl _) ?_
  exact hK
set_option maxHeartbeats 4000000 in
set_option maxRecDepth 100000 in
theorem ok_Rn_takings_1 {D : xD} {N : Nat} {l : Launch} {d : Nat} {g : List va_E} {K : Option Value → List va_E → Prop} {v s2 : Int32} (hr : g[15 + 1]? = some (.inr (kci 1, []))) (hK : K (some (.int (kTake 1 v s2))) g) : Ok D N l (d + 2) M_Rn_takings [.ref (N + (15 + 1)), .int v, .int s2] g 0 0 K := by
  refine ok_of (L := [(0, _), (1, _), (2, _)]) (by decide) (Nat.le_of_ble_eq_true rfl) rfl ?_
  refine wp_aload_n d_Rn_takings_0 rfl rfl ?_
  refine wp_iload_n d_Rn_takings_1 rfl rfl ?_
  refine wp_v_fareOf (k := 1) lm_Rn_18 (ro _ _ _) d_Rn_takings_2 rfl (Nat.le_of_ble_eq_true rfl) (by decide) hr (Nat.zero_le _) (Nat.zero_le _) ?_
  refine wp_iload_n d_Rn_takings_5 rfl rfl ?_
  refine wp_imul d_Rn_takings_6 rfl ?_
  refine wp_iret d_Rn_takings_7 rfl (Nat.le_refl _) (Nat.le_refl _) ?_
  exact hK
set_option maxHeartbeats 4000000 in
set_option maxRecDepth 100000 in
theorem ok_Rn_takings_2 {D : xD} {N : Nat} {l : Launch} {d : Nat} {g : List va_E} {K : Option Value → List va_E → Prop} {v s2 : Int32} (hr : g[15 + 2]? = some (.inr (kci 2, []))) (hK : K (some (.int (kTake 2 v s2))) g) : Ok D N l (d + 2) M_Rn_takings [.ref (N + (15 + 2)), .int v, .int s2] g 0 0 K := by
  refine ok_of (L := [(0, _), (1, _), (2, _)]) (by decide) (Nat.le_of_ble_eq_true rfl) rfl ?_
  refine wp_aload_n d_Rn_takings_0 rfl rfl ?_
  refine wp_iload_n d_Rn_takings_1 rfl rfl ?_
  refine wp_v_fareOf (k := 2) lm_Rn_18 (ro _ _ _) d_Rn_takings_2 rfl (Nat.le_of_ble_eq_true rfl) (by decide) hr (Nat.zero_le _) (Nat.zero_le _) ?_
  refine wp_iload_n d_Rn_takings_5 rfl rfl ?_
  refine wp_imul d_Rn_takings_6 rfl ?_
  refine wp_iret d_Rn_takings_7 rfl (Nat.le_refl _) (Nat.le_refl _) ?_
  exact hK
set_option maxHeartbeats 4000000 in
set_option maxRecDepth 100000 in
theorem ok_Rn_takings_3 {D : xD} {N : Nat} {l : Launch} {d : Nat} {g : List va_E} {K : Option Value → List va_E → Prop} {v s2 : Int32} (hr : g[15 + 3]? = some (.inr (kci 3, []))) (hK : K (some (.int (kTake 3 v s2))) g) : Ok D N l (d + 2) M_Rn_takings [.ref (N + (15 + 3)), .int v, .int s2] g 0 0 K := by
  refine ok_of (L := [(0, _), (1, _), (2, _)]) (by decide) (Nat.le_of_ble_eq_true rfl) rfl ?_
  refine wp_aload_n d_Rn_takings_0 rfl rfl ?_
  refine wp_iload_n d_Rn_takings_1 rfl rfl ?_
  refine wp_v_fareOf (k := 3) lm_Rn_18 (ro _ _ _) d_Rn_takings_2 rfl (Nat.le_of_ble_eq_true rfl) (by decide) hr (Nat.zero_le _) (Nat.zero_le _) ?_
  refine wp_iload_n d_Rn_takings_5 rfl rfl ?_
  refine wp_imul d_Rn_takings_6 rfl ?_
  refine wp_iret d_Rn_takings_7 rfl (Nat.le_refl _) (Nat.le_refl _) ?_
  exact hK
set_option maxHeartbeats 4000000 in
set_option maxRecDepth 100000 in
theorem ok_Rn_takings_4 {D : xD} {N : Nat} {l : Launch} {d : Nat} {g : List va_E} {K : Option Value → List va_E → Prop} {v s2 : Int32} (hr : g[15 + 4]? = some (.inr (kci 4, []))) (hK : K (some (.int (kTake 4 v s2))) g) : Ok D N l (d + 2) M_Rn_takings [.ref (N + (15 + 4)), .int v, .int s2] g 0 0 K := by
  refine ok_of (L := [(0, _), (1, _), (2, _)]) (by decide) (Nat.le_of_ble_eq_true rfl) rfl ?_
  refine wp_aload_n d_Rn_takings_0 rfl rfl ?_
  refine wp_iload_n d_Rn_takings_1 rfl rfl ?_
  refine wp_v_fareOf (k := 4) lm_Rn_18 (ro _ _ _) d_Rn_takings_2 rfl (Nat.le_of_ble_eq_true rfl) (by decide) hr (Nat.zero_le _) (Nat.zero_le _) ?_
  refine wp_iload_n d_Rn_takings_5 rfl rfl ?_
  refine wp_imul d_Rn_takings_6 rfl ?_
  refine wp_iret d_Rn_takings_7 rfl (Nat.le_refl _) (Nat.le_refl _) ?_
  exact hK
set_option maxHeartbeats 4000000 in
set_option maxRecDepth 100000 in
theorem ok_Hi_takings_5 {D : xD} {N : Nat} {l : Launch} {d : Nat} {g : List va_E} {K : Option Value → List va_E → Prop} {v s2 : Int32} (hr : g[15 + 5]? = some (.inr (kci 5, []))) (hK : K (some (.int (kTake 5 v s2))) g) : Ok D N l (d + 1) M_Hi_takings [.ref (N + (15 + 5)), .int v, .int s2] g 0 0 K := by
  refine ok_of (L := [(0, _), (1, _), (2, _)]) (by decide) (Nat.le_of_ble_eq_true rfl) rfl ?_
  refine wp_aload_n d_Hi_takings_0 rfl rfl ?_
  refine wp_iload_n d_Hi_takings_1 rfl rfl ?_
  refine wp_cv1 lk_Hi_9 (ro _ _ _) d_Hi_takings_2 rfl (Nat.le_of_ble_eq_true rfl) (hr) rfl (Nat.zero_le _) (Nat.zero_le _) ?_
  refine ok_Hi_fareOf ?_
  refine wp_iret d_Hi_takings_5 rfl (Nat.le_refl _) (Nat.le_refl _) ?_
  exact hK
section WV
variable {D : xD} {N : Nat} {l : Launch} {E : EX} {M : MD} {R : Room} {Qf : QF} {kk n pc : Nat} {L : List (Nat × Value)} {st : List Value} {g : List va_E}
set_option maxHeartbeats 1000000 in
theorem wp_v_takings {q d idx k : Nat} {v s2 : Int32} (hl : Cond.methodLink M.1.cls idx xR_takings ∈ lw_good) (hR : RO R (d + 3)) (hd : decode M.2.1 pc = .ok (.invokevirtual idx, 3)) (hq : pc + 3 = q) (hcat : (st.map fun v => v.category).sum ≤ 8) (hk : k < 6) (hG : g[15 + k]? = some (.inr (kci k, []))) (hc : kk ≤ R.cells) (hs : n ≤ R.slots) (h : Wp D N l E M R Qf kk n q L (.int (kTake k v s2) :: st) g) : Wp D N l E M R Qf kk n pc L (.int s2 :: .int v :: .ref (N + (15 + k)) :: st) g := by
  rcases (show k = 0 ∨ k = 1 ∨ k = 2 ∨ k = 3 ∨ k = 4 ∨ k = 5 by omega) with rfl | rfl | rfl | rfl | rfl | rfl
  · exact wp_cu2 (lu_takings_Rn.to hl) hR hd hq hcat hG rfl hc hs (ok_Rn_takings_0 hG h)
  · exact wp_cu2 (lu_takings_Sh.to hl) hR hd hq hcat hG rfl hc hs (ok_Rn_takings_1 hG h)
  · exact wp_cu2 (lu_takings_Em.to hl) hR hd hq hcat hG rfl hc hs (ok_Rn_takings_2 hG h)
  · exact wp_cu2 (lu_takings_Ea.to hl) hR hd hq hcat hG rfl hc hs (ok_Rn_takings_3 hG h)
  · exact wp_cu2 (lu_takings_Ex.to hl) hR hd hq hcat hG rfl hc hs (ok_Rn_takings_4 hG h)
  · exact wp_cu2 (lu_takings_Hi.to hl) hR hd hq hcat hG rfl hc hs (ok_Hi_takings_5 hG h)
end WV

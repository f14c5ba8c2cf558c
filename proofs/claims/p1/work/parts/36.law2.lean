theorem d_Lw_law_631 : decode b_Lw_law 631 = .ok (.aload_n 1, 1) := by decide +kernel
theorem d_Lw_law_632 : decode b_Lw_law 632 = .ok (.aload_n 0, 1) := by decide +kernel
theorem d_Lw_law_633 : decode b_Lw_law 633 = .ok (.iload 4, 2) := by decide +kernel
theorem d_Lw_law_635 : decode b_Lw_law 635 = .ok (.iconst 1, 1) := by decide +kernel
theorem d_Lw_law_636 : decode b_Lw_law 636 = .ok (.iadd, 1) := by decide +kernel
theorem d_Lw_law_637 : decode b_Lw_law 637 = .ok (.iaload, 1) := by decide +kernel
theorem d_Lw_law_638 : decode b_Lw_law 638 = .ok (.aload_n 0, 1) := by decide +kernel
theorem d_Lw_law_639 : decode b_Lw_law 639 = .ok (.iload 4, 2) := by decide +kernel
theorem d_Lw_law_641 : decode b_Lw_law 641 = .ok (.iconst 2, 1) := by decide +kernel
theorem d_Lw_law_642 : decode b_Lw_law 642 = .ok (.iadd, 1) := by decide +kernel
theorem d_Lw_law_643 : decode b_Lw_law 643 = .ok (.iaload, 1) := by decide +kernel
theorem d_Lw_law_644 : decode b_Lw_law 644 = .ok (.i2l, 1) := by decide +kernel
theorem d_Lw_law_645 : decode b_Lw_law 645 = .ok (.bipush 32, 2) := by decide +kernel
theorem d_Lw_law_647 : decode b_Lw_law 647 = .ok (.lshl, 1) := by decide +kernel
theorem d_Lw_law_648 : decode b_Lw_law 648 = .ok (.aload_n 0, 1) := by decide +kernel
theorem d_Lw_law_649 : decode b_Lw_law 649 = .ok (.iload 4, 2) := by decide +kernel
theorem d_Lw_law_651 : decode b_Lw_law 651 = .ok (.iconst 3, 1) := by decide +kernel
theorem d_Lw_law_652 : decode b_Lw_law 652 = .ok (.iadd, 1) := by decide +kernel
theorem d_Lw_law_653 : decode b_Lw_law 653 = .ok (.iaload, 1) := by decide +kernel
theorem d_Lw_law_654 : decode b_Lw_law 654 = .ok (.i2l, 1) := by decide +kernel
theorem d_Lw_law_655 : decode b_Lw_law 655 = .ok (.ldc2_w 78, 3) := by decide +kernel
theorem d_Lw_law_658 : decode b_Lw_law 658 = .ok (.land, 1) := by decide +kernel
theorem d_Lw_law_659 : decode b_Lw_law 659 = .ok (.lor, 1) := by decide +kernel
theorem d_Lw_law_660 : decode b_Lw_law 660 = .ok (.aload_n 0, 1) := by decide +kernel
theorem d_Lw_law_661 : decode b_Lw_law 661 = .ok (.iload 4, 2) := by decide +kernel
theorem d_Lw_law_663 : decode b_Lw_law 663 = .ok (.iconst 4, 1) := by decide +kernel
theorem d_Lw_law_664 : decode b_Lw_law 664 = .ok (.iadd, 1) := by decide +kernel
theorem d_Lw_law_665 : decode b_Lw_law 665 = .ok (.iaload, 1) := by decide +kernel
theorem d_Lw_law_666 : decode b_Lw_law 666 = .ok (.aload_n 3, 1) := by decide +kernel
theorem d_Lw_law_667 : decode b_Lw_law 667 = .ok (.invokestatic 110, 3) := by decide +kernel
theorem d_Lw_law_670 : decode b_Lw_law 670 = .ok (.istore 5, 2) := by decide +kernel
theorem d_Lw_law_672 : decode b_Lw_law 672 = .ok (.aload_n 2, 1) := by decide +kernel
theorem d_Lw_law_673 : decode b_Lw_law 673 = .ok (.aload_n 0, 1) := by decide +kernel
theorem d_Lw_law_674 : decode b_Lw_law 674 = .ok (.iload 4, 2) := by decide +kernel
theorem d_Lw_law_676 : decode b_Lw_law 676 = .ok (.iconst 1, 1) := by decide +kernel
theorem d_Lw_law_677 : decode b_Lw_law 677 = .ok (.iadd, 1) := by decide +kernel
theorem d_Lw_law_678 : decode b_Lw_law 678 = .ok (.iaload, 1) := by decide +kernel
theorem d_Lw_law_679 : decode b_Lw_law 679 = .ok (.aload_n 0, 1) := by decide +kernel
theorem d_Lw_law_680 : decode b_Lw_law 680 = .ok (.iload 4, 2) := by decide +kernel
theorem d_Lw_law_682 : decode b_Lw_law 682 = .ok (.iconst 2, 1) := by decide +kernel
theorem d_Lw_law_683 : decode b_Lw_law 683 = .ok (.iadd, 1) := by decide +kernel
theorem d_Lw_law_684 : decode b_Lw_law 684 = .ok (.iaload, 1) := by decide +kernel
theorem d_Lw_law_685 : decode b_Lw_law 685 = .ok (.i2l, 1) := by decide +kernel
theorem d_Lw_law_686 : decode b_Lw_law 686 = .ok (.bipush 32, 2) := by decide +kernel
theorem d_Lw_law_688 : decode b_Lw_law 688 = .ok (.lshl, 1) := by decide +kernel
theorem d_Lw_law_689 : decode b_Lw_law 689 = .ok (.aload_n 0, 1) := by decide +kernel
theorem d_Lw_law_690 : decode b_Lw_law 690 = .ok (.iload 4, 2) := by decide +kernel
theorem d_Lw_law_692 : decode b_Lw_law 692 = .ok (.iconst 3, 1) := by decide +kernel
theorem d_Lw_law_693 : decode b_Lw_law 693 = .ok (.iadd, 1) := by decide +kernel
theorem d_Lw_law_694 : decode b_Lw_law 694 = .ok (.iaload, 1) := by decide +kernel
theorem d_Lw_law_695 : decode b_Lw_law 695 = .ok (.i2l, 1) := by decide +kernel
theorem d_Lw_law_696 : decode b_Lw_law 696 = .ok (.ldc2_w 78, 3) := by decide +kernel
theorem d_Lw_law_699 : decode b_Lw_law 699 = .ok (.land, 1) := by decide +kernel
theorem d_Lw_law_700 : decode b_Lw_law 700 = .ok (.lor, 1) := by decide +kernel
theorem d_Lw_law_701 : decode b_Lw_law 701 = .ok (.aload_n 0, 1) := by decide +kernel
theorem d_Lw_law_702 : decode b_Lw_law 702 = .ok (.iload 4, 2) := by decide +kernel
theorem d_Lw_law_704 : decode b_Lw_law 704 = .ok (.iconst 4, 1) := by decide +kernel
theorem d_Lw_law_705 : decode b_Lw_law 705 = .ok (.iadd, 1) := by decide +kernel
theorem d_Lw_law_706 : decode b_Lw_law 706 = .ok (.iaload, 1) := by decide +kernel
theorem d_Lw_law_707 : decode b_Lw_law 707 = .ok (.invokevirtual 112, 3) := by decide +kernel
theorem d_Lw_law_710 : decode b_Lw_law 710 = .ok (.istore 6, 2) := by decide +kernel
theorem d_Lw_law_712 : decode b_Lw_law 712 = .ok (.aload_n 2, 1) := by decide +kernel
theorem d_Lw_law_713 : decode b_Lw_law 713 = .ok (.invokevirtual 86, 3) := by decide +kernel
theorem d_Lw_law_716 : decode b_Lw_law 716 = .ok (.iload 5, 2) := by decide +kernel
theorem d_Lw_law_718 : decode b_Lw_law 718 = .ok (.if_icmp .eq 5, 3) := by decide +kernel
theorem d_Lw_law_723 : decode b_Lw_law 723 = .ok (.iload 5, 2) := by decide +kernel
theorem d_Lw_law_725 : decode b_Lw_law 725 = .ok (.ifCond .ne 15, 3) := by decide +kernel
theorem d_Lw_law_740 : decode b_Lw_law 740 = .ok (.goto 623, 3) := by decide +kernel
theorem d_Lw_law_728 : decode b_Lw_law 728 = .ok (.aload_n 3, 1) := by decide +kernel
theorem d_Lw_law_729 : decode b_Lw_law 729 = .ok (.iconst 0, 1) := by decide +kernel
theorem d_Lw_law_730 : decode b_Lw_law 730 = .ok (.laload, 1) := by decide +kernel
theorem d_Lw_law_731 : decode b_Lw_law 731 = .ok (.iload 6, 2) := by decide +kernel
theorem d_Lw_law_733 : decode b_Lw_law 733 = .ok (.i2l, 1) := by decide +kernel
theorem d_Lw_law_734 : decode b_Lw_law 734 = .ok (.lcmp, 1) := by decide +kernel
theorem d_Lw_law_735 : decode b_Lw_law 735 = .ok (.ifCond .eq 5, 3) := by decide +kernel
theorem d_Lw_law_899 : decode b_Lw_law 899 = .ok (.aload_n 1, 1) := by decide +kernel
theorem d_Lw_law_900 : decode b_Lw_law 900 = .ok (.aload_n 0, 1) := by decide +kernel
theorem d_Lw_law_901 : decode b_Lw_law 901 = .ok (.iload 4, 2) := by decide +kernel
theorem d_Lw_law_903 : decode b_Lw_law 903 = .ok (.iconst 1, 1) := by decide +kernel
theorem d_Lw_law_904 : decode b_Lw_law 904 = .ok (.iadd, 1) := by decide +kernel
theorem d_Lw_law_905 : decode b_Lw_law 905 = .ok (.iaload, 1) := by decide +kernel
theorem d_Lw_law_906 : decode b_Lw_law 906 = .ok (.aload_n 3, 1) := by decide +kernel
theorem d_Lw_law_907 : decode b_Lw_law 907 = .ok (.invokestatic 120, 3) := by decide +kernel
theorem d_Lw_law_910 : decode b_Lw_law 910 = .ok (.istore 5, 2) := by decide +kernel
theorem d_Lw_law_912 : decode b_Lw_law 912 = .ok (.aload_n 2, 1) := by decide +kernel
theorem d_Lw_law_913 : decode b_Lw_law 913 = .ok (.aload_n 0, 1) := by decide +kernel
theorem d_Lw_law_914 : decode b_Lw_law 914 = .ok (.iload 4, 2) := by decide +kernel
theorem d_Lw_law_916 : decode b_Lw_law 916 = .ok (.iconst 1, 1) := by decide +kernel
theorem d_Lw_law_917 : decode b_Lw_law 917 = .ok (.iadd, 1) := by decide +kernel
theorem d_Lw_law_918 : decode b_Lw_law 918 = .ok (.iaload, 1) := by decide +kernel
theorem d_Lw_law_919 : decode b_Lw_law 919 = .ok (.invokevirtual 122, 3) := by decide +kernel
theorem d_Lw_law_922 : decode b_Lw_law 922 = .ok (.istore 6, 2) := by decide +kernel
theorem d_Lw_law_924 : decode b_Lw_law 924 = .ok (.aload_n 2, 1) := by decide +kernel
theorem d_Lw_law_925 : decode b_Lw_law 925 = .ok (.invokevirtual 86, 3) := by decide +kernel
theorem d_Lw_law_928 : decode b_Lw_law 928 = .ok (.iload 5, 2) := by decide +kernel
theorem d_Lw_law_930 : decode b_Lw_law 930 = .ok (.if_icmp .eq 5, 3) := by decide +kernel
theorem d_Lw_law_935 : decode b_Lw_law 935 = .ok (.iload 5, 2) := by decide +kernel
theorem d_Lw_law_937 : decode b_Lw_law 937 = .ok (.ifCond .ne 15, 3) := by decide +kernel
theorem d_Lw_law_952 : decode b_Lw_law 952 = .ok (.goto 411, 3) := by decide +kernel
theorem d_Lw_law_940 : decode b_Lw_law 940 = .ok (.aload_n 3, 1) := by decide +kernel
theorem d_Lw_law_941 : decode b_Lw_law 941 = .ok (.iconst 0, 1) := by decide +kernel
theorem d_Lw_law_942 : decode b_Lw_law 942 = .ok (.laload, 1) := by decide +kernel
theorem d_Lw_law_943 : decode b_Lw_law 943 = .ok (.iload 6, 2) := by decide +kernel
theorem d_Lw_law_945 : decode b_Lw_law 945 = .ok (.i2l, 1) := by decide +kernel
theorem d_Lw_law_946 : decode b_Lw_law 946 = .ok (.lcmp, 1) := by decide +kernel
theorem d_Lw_law_947 : decode b_Lw_law 947 = .ok (.ifCond .eq 5, 3) := by decide +kernel
theorem d_Lw_law_955 : decode b_Lw_law 955 = .ok (.aload_n 1, 1) := by decide +kernel
theorem d_Lw_law_956 : decode b_Lw_law 956 = .ok (.aload_n 0, 1) := by decide +kernel
theorem d_Lw_law_957 : decode b_Lw_law 957 = .ok (.iload 4, 2) := by decide +kernel
theorem d_Lw_law_959 : decode b_Lw_law 959 = .ok (.iconst 1, 1) := by decide +kernel
theorem d_Lw_law_960 : decode b_Lw_law 960 = .ok (.iadd, 1) := by decide +kernel
theorem d_Lw_law_961 : decode b_Lw_law 961 = .ok (.iaload, 1) := by decide +kernel
theorem d_Lw_law_962 : decode b_Lw_law 962 = .ok (.invokestatic 123, 3) := by decide +kernel
theorem d_Lw_law_965 : decode b_Lw_law 965 = .ok (.istore 5, 2) := by decide +kernel
theorem d_Lw_law_967 : decode b_Lw_law 967 = .ok (.aload_n 2, 1) := by decide +kernel
theorem d_Lw_law_968 : decode b_Lw_law 968 = .ok (.aload_n 0, 1) := by decide +kernel
theorem d_Lw_law_969 : decode b_Lw_law 969 = .ok (.iload 4, 2) := by decide +kernel
theorem d_Lw_law_971 : decode b_Lw_law 971 = .ok (.iconst 1, 1) := by decide +kernel
theorem d_Lw_law_972 : decode b_Lw_law 972 = .ok (.iadd, 1) := by decide +kernel
theorem d_Lw_law_973 : decode b_Lw_law 973 = .ok (.iaload, 1) := by decide +kernel
theorem d_Lw_law_974 : decode b_Lw_law 974 = .ok (.invokevirtual 126, 3) := by decide +kernel
theorem d_Lw_law_977 : decode b_Lw_law 977 = .ok (.aload_n 2, 1) := by decide +kernel
theorem d_Lw_law_978 : decode b_Lw_law 978 = .ok (.invokevirtual 86, 3) := by decide +kernel
theorem d_Lw_law_981 : decode b_Lw_law 981 = .ok (.iload 5, 2) := by decide +kernel
theorem d_Lw_law_983 : decode b_Lw_law 983 = .ok (.if_icmp .eq 5, 3) := by decide +kernel
theorem d_Lw_law_988 : decode b_Lw_law 988 = .ok (.goto 375, 3) := by decide +kernel
set_option maxHeartbeats 4000000 in
set_option maxRecDepth 100000 in
theorem lw_case6 {p : Program} {l : Launch} {e : Env} {s : State} {m : MethodId} {args : Array Value} {below : List Frame} {meth : Method} {c : Code} {Q : State → Prop} {A : Nat → Prop} {b : Nat} {xs : Nat → Int32} {H : Heap} {locs : List Loc} {ls : Array Slot} (dC : Nat → ClassId) (dI : Nat → Nat → Nat) (cT : Nat → ClassId) (ds : Nat) (dr : Nat) (sv : Nat) (rr : Nat) (se : Nat) (pw : Nat) (g0 : Nat) (ty : Nat) (an : Nat) (aw : Nat) (ts : Nat) (ss : Nat) (rq : Nat) (sh : Nat) (sr : Nat) (uh : Nat) (ur : Nat) (tx : Nat) (tr : Nat) (wo : Nat) (di : Nat) (ar : Nat) (a1 : Nat) (t1 : Nat) (s1 : Nat) (sa : Nat) (mo : Nat) (ou : Nat) (st us : Nat) (gs gp : Nat → Option Nat) (df sf mc mz mf mZ : Nat → Int32) (mS mQ fo : Nat → Int64) (mq : Nat → Nat) (hx : p.tables.exec = Jvm.exec) (hb : c.code = b_Lw_law) (hml : c.maxLocals = 8) (hown : s.vm.findClass "DoorServerLaw" = some m.cls) (hg : ∀ w ∈ BIG, w.before args s = true) (hX : va_X b 5 xs s s.heap) (hbl : b < s.heap.size) (hbA : ¬ A b) (hA : ∀ q : Nat, s.heap.size ≤ q → A q) (hK : va_K (dC, dI) vcl (tyL cT) s) (hfl : l.flags = pinnedFlags ++ [noTraceFlag]) (hXm : xm A s s.heap) (hXz : xz_T A s s.heap) (hst : st < 4) (hus : us < 32) (hgs : gs st = some sh) (hgp : gp us = some uh) (hst1 : ¬ xs 1 < 0 → ¬ 3 < xs 1 → xs 1 = nI st) (hus1 : ¬ xs 1 < 0 → ¬ 31 < xs 1 → xs 1 = nI us) (hdf : df 0 = 1 ∧ df 1 = 0 ∧ df 2 = 0 ∧ df 3 = 20 ∧ ∀ q9, q9 < 8 → df (4 + q9) = bn_at 0 q9 ∧ df (12 + q9) = bn_at 0 q9 ^^^ 90) (hmf : mf 0 = 1 ∧ mf 1 = 0 ∧ mf 2 = 0 ∧ mf 3 = 20 ∧ ∀ k9, k9 < 16 → mf (4 + k9) = mb_at 0 k9) (hmz : ∀ q9, q9 < 4 → mz q9 = 1) (hz : mZ 14 = 0 ∧ mZ 17 = 0 ∧ mZ 24 = 0 ∧ mZ 33 = 0 ∧ mZ 43 = 0 ∧ mZ 44 = 0) (kk : ∀ (H : Heap) (locs : List Loc) (ls : Array Slot), va_S A s.heap H locs → lv_has ls 8 [(0, .ref b), (4, .int 0)] → W p l e room_1 s m args below meth c H locs 900 33000 Q (F0 m 1363 ls [])) (hP : va_P (dC, dI) vcl [(ds, .inr (0, [.ref dr, .ref sv])), (dr, .inr (2, [.ref rr, .int (nI 20)])), (rr, .inl ((cT 0), 1000, .inl df)), (sv, .inr (5, [.ref se, .ref pw, .ref g0, .ref ty, .ref an, .ref aw, .ref ts, .ref ss, .ref rq, .int 0, .int 0, .int 0])), (se, .inl ((cT 2), 4, .inr (.inr (.inr (.inr gs))))), (sh, .inr (1, [.ref sr, .int (nI 1)])), (sr, .inl ((cT 0), 40, .inl sf)), (pw, .inl ((cT 2), 32, .inr (.inr (.inr (.inr gp))))), (uh, .inr (1, [.ref ur, .int 0])), (ur, .inl ((cT 0), 60, .inl (fun _ => 0))), (g0, .inr (3, [.ref tx, .ref wo, .ref di, .int 0, .int 0, .int 0, .int 0])), (tx, .inr (1, [.ref tr, .int (nI 0)])), (tr, .inl ((cT 0), 1192, .inl (fun _ => 0))), (wo, .inl ((cT 0), 16, .inl (fun _ => 0))), (di, .inl ((cT 0), 16, .inl (fun _ => 0))), (an, .inr (2, [.ref ar, .int 0])), (ar, .inl ((cT 0), 72, .inl (fun _ => 0))), (aw, .inr (6, [.ref a1, .int 0, .int 0])), (ts, .inr (9, [.ref t1, .long 0, .long 1, .int 0])), (ss, .inr (11, [.ref s1, .int 0])), (rq, .inr (4, [.ref dr, .ref sa])), (sa, .inl ((cT 0), 256, .inl (fun _ => 0))), (mo, .inr (12, mdF mq mZ mQ 0 0 (nI 20) (nI 0))), (mq 0, .inl ((cT 1), 64, .inr (.inl mS))), (mq 3, .inl ((cT 0), 160, .inl mc)), (mq 4, .inl ((cT 0), 4, .inl mz)), (mq 5, .inl ((cT 0), 1920, .inl (fun _ => 0))), (mq 6, .inl ((cT 0), 32, .inl (fun _ => 0))), (mq 7, .inl ((cT 0), 1000, .inl mf)), (mq 9, .inl ((cT 0), 1400, .inl (fun _ => 0))), (mq 11, .inl ((cT 0), 16, .inl (fun _ => 0))), (mq 12, .inl ((cT 0), 1200, .inl (fun _ => 0))), (ou, .inl ((cT 1), 1, .inr (.inl fo)))] H) (hD : va_D A [(ds, .inr (0, [.ref dr, .ref sv])), (dr, .inr (2, [.ref rr, .int (nI 20)])), (rr, .inl ((cT 0), 1000, .inl df)), (sv, .inr (5, [.ref se, .ref pw, .ref g0, .ref ty, .ref an, .ref aw, .ref ts, .ref ss, .ref rq, .int 0, .int 0, .int 0])), (se, .inl ((cT 2), 4, .inr (.inr (.inr (.inr gs))))), (sh, .inr (1, [.ref sr, .int (nI 1)])), (sr, .inl ((cT 0), 40, .inl sf)), (pw, .inl ((cT 2), 32, .inr (.inr (.inr (.inr gp))))), (uh, .inr (1, [.ref ur, .int 0])), (ur, .inl ((cT 0), 60, .inl (fun _ => 0))), (g0, .inr (3, [.ref tx, .ref wo, .ref di, .int 0, .int 0, .int 0, .int 0])), (tx, .inr (1, [.ref tr, .int (nI 0)])), (tr, .inl ((cT 0), 1192, .inl (fun _ => 0))), (wo, .inl ((cT 0), 16, .inl (fun _ => 0))), (di, .inl ((cT 0), 16, .inl (fun _ => 0))), (an, .inr (2, [.ref ar, .int 0])), (ar, .inl ((cT 0), 72, .inl (fun _ => 0))), (aw, .inr (6, [.ref a1, .int 0, .int 0])), (ts, .inr (9, [.ref t1, .long 0, .long 1, .int 0])), (ss, .inr (11, [.ref s1, .int 0])), (rq, .inr (4, [.ref dr, .ref sa])), (sa, .inl ((cT 0), 256, .inl (fun _ => 0))), (mo, .inr (12, mdF mq mZ mQ 0 0 (nI 20) (nI 0))), (mq 0, .inl ((cT 1), 64, .inr (.inl mS))), (mq 3, .inl ((cT 0), 160, .inl mc)), (mq 4, .inl ((cT 0), 4, .inl mz)), (mq 5, .inl ((cT 0), 1920, .inl (fun _ => 0))), (mq 6, .inl ((cT 0), 32, .inl (fun _ => 0))), (mq 7, .inl ((cT 0), 1000, .inl mf)), (mq 9, .inl ((cT 0), 1400, .inl (fun _ => 0))), (mq 11, .inl ((cT 0), 16, .inl (fun _ => 0))), (mq 12, .inl ((cT 0), 1200, .inl (fun _ => 0))), (ou, .inl ((cT 1), 1, .inr (.inl fo)))]) (hS : va_S A s.heap H locs) (hl : lv_has ls 8 [(0, .ref b), (1, .ref ds), (2, .ref mo), (3, .ref ou), (4, .int 0)]) : W p l e room_1 s m args below meth c H locs 800 32000 Q (F0 m 631 ls []) := by
  by_cases h1 : xs 1 < 0 ∨ 3 < xs 1
  · skip
    have hP := hP.sub (ws' := [(ds, .inr (0, [.ref dr, .ref sv])), (mo, .inr (12, mdF mq mZ mQ 0 0 (nI 20) (nI 0)))]) [0, 22] rfl
    have hD := hD.sub (ws' := [(ds, .inr (0, [.ref dr, .ref sv])), (mo, .inr (12, mdF mq mZ mQ 0 0 (nI 20) (nI 0)))]) [0, 22] (by decide) rfl
    refine lv_aload_n hx hb d_Lw_law_631 rfl (lv_at hl 1 rfl) ?_
    refine lv_aload_n hx hb d_Lw_law_632 rfl (lv_at hl 0 rfl) ?_
    refine lv_iload hx hb d_Lw_law_633 (lv_at hl 4 rfl) ?_
    refine lv_iconst (v := 1) hx hb d_Lw_law_635 (by decide) ?_
    refine lv_iadd hx hb d_Lw_law_636 ?_
    refine va_sld hx hb hX hbl hbA hS (i := (0 + 1)) (vin (by decide)) d_Lw_law_637 ?_
    refine lv_topi (fun x2 e1 => ?_)
    obtain rfl : x2 = xs 1 := by rw [e1]; exact congrArg xs (by decide)
    refine lv_aload_n hx hb d_Lw_law_638 rfl (lv_at hl 0 rfl) ?_
    refine lv_iload hx hb d_Lw_law_639 (lv_at hl 4 rfl) ?_
    refine lv_iconst (v := 2) hx hb d_Lw_law_641 (by decide) ?_
    refine lv_iadd hx hb d_Lw_law_642 ?_
    refine va_sld hx hb hX hbl hbA hS (i := (0 + 2)) (vin (by decide)) d_Lw_law_643 ?_
    refine lv_topi (fun x4 e3 => ?_)
    obtain rfl : x4 = xs 2 := by rw [e3]; exact congrArg xs (by decide)
    refine lv_i2l (v := (xs 2).toInt64) hx hb d_Lw_law_644 rfl ?_
    refine lv_bipush (v := 32) hx hb d_Lw_law_645 (by decide) ?_
    refine lv_lshl (v := ((xs 2).toInt64) <<< ((32 : Int32).toInt64 &&& 63)) hx hb d_Lw_law_647 rfl ?_
    refine lv_aload_n hx hb d_Lw_law_648 rfl (lv_at hl 0 rfl) ?_
    refine lv_iload hx hb d_Lw_law_649 (lv_at hl 4 rfl) ?_
    refine lv_iconst (v := 3) hx hb d_Lw_law_651 (by decide) ?_
    refine lv_iadd hx hb d_Lw_law_652 ?_
    refine va_sld hx hb hX hbl hbA hS (i := (0 + 3)) (vin (by decide)) d_Lw_law_653 ?_
    refine lv_topi (fun x6 e5 => ?_)
    obtain rfl : x6 = xs 3 := by rw [e5]; exact congrArg xs (by decide)
    refine lv_i2l (v := (xs 3).toInt64) hx hb d_Lw_law_654 rfl ?_
    refine lv_ldc2 (v := 4294967295) hx hb hown (hg _ k_1418) d_Lw_law_655 ?_
    refine lv_land hx hb d_Lw_law_658 ?_
    refine lv_lor hx hb d_Lw_law_659 ?_
    refine lv_aload_n hx hb d_Lw_law_660 rfl (lv_at hl 0 rfl) ?_
    refine lv_iload hx hb d_Lw_law_661 (lv_at hl 4 rfl) ?_
    refine lv_iconst (v := 4) hx hb d_Lw_law_663 (by decide) ?_
    refine lv_iadd hx hb d_Lw_law_664 ?_
    refine va_sld hx hb hX hbl hbA hS (i := (0 + 4)) (vin (by decide)) d_Lw_law_665 ?_
    refine lv_topi (fun x8 e7 => ?_)
    obtain rfl : x8 = xs 4 := by rw [e7]; exact congrArg xs (by decide)
    refine lv_aload_n hx hb d_Lw_law_666 rfl (lv_at hl 3 rfl) ?_
    have hPc := hP.sub (ws' := [(ds, .inr (0, [.ref dr, .ref sv]))]) [0] rfl
    have hDc := hD.sub (ws' := [(ds, .inr (0, [.ref dr, .ref sv]))]) [0] (by decide) rfl
    have hFc := va_free (wc := [(ds, .inr (0, [.ref dr, .ref sv]))]) hD hS hA [0] rfl
    refine va_calli (xw_runS (As := [.ref ds, .int (xs 1), .long ((((xs 2).toInt64) <<< ((32 : Int32).toInt64 &&& 63)) ||| (((xs 3).toInt64) &&& 4294967295)), .int (xs 4), .ref ou]) (rest := []) ⟨hx, hb, hml, hown, hg⟩ (t_password1 l dC dI cT H.size ds (xs 1) ((((xs 2).toInt64) <<< ((32 : Int32).toInt64 &&& 63)) ||| (((xs 3).toInt64) &&& 4294967295)) (xs 4) dr sv ou (hfl) (h1)) rfl (gI (List.forall_mem_cons.mpr ⟨k_549, fun _ h => h⟩)) (hg _ k_547) (hg _ k_548) (hg _ k_0) rfl rfl (n := 5) (by decide +kernel) ⟨Nat.le_of_ble_eq_true rfl, Nat.le_of_ble_eq_true rfl⟩ ⟨fun a U g mk q => by obtain ⟨q0, q1, qP, qK, qD, qE⟩ := q; exact ⟨q0, q1, qP, va_K.moved (u := U) (U := U.calling g mk a) (Vm.Alike.refl U.vm) qK, qD, qE.at (State.WarmedH.refl _) (fun _ _ _ => rfl) (fun _ h => h)⟩, fun U hU hW => ⟨rfl, by rw [hU], by rw [hU]; exact hPc, va_K.moved hW.alike hK, hDc.weaken (fun _ _ _ _ => trivial), by rw [hU]; exact hXz.at hW hS.2.1 (fun _ h => h.elim)⟩⟩ rfl rfl hl.1 rfl (lv_room (Nat.le_of_ble_eq_true rfl)) d_Lw_law_667 ⟨Nat.le_of_ble_eq_true rfl, Nat.le_of_ble_eq_true rfl⟩) hS (fun q _ h => hFc q h) hFc (fun rv9 u t H1 locs ht hvm hw hB hz1 hk1 hS => ?_)
    try dsimp only at hw hB
    obtain ⟨hP1, hK1, hD1⟩ := hB
    rw [ht] at hP1
    obtain ⟨rfl, hw⟩ := hw
    obtain ⟨hP, hD⟩ := va_join (wr := [(mo, .inr (12, mdF mq mZ mQ 0 0 (nI 20) (nI 0)))]) (w1 := []) hP hD [0] [1] rfl rfl (by decide) (by decide) hk1 hFc hP1 hD1
    have hw9 := hw
    clear hPc hDc hFc hz1 hk1 hP1 hK1 hD1
    generalize H1 = H at hP hS ⊢
    have hP : va_P (dC, dI) vcl [(mo, .inr (12, mdF mq mZ mQ 0 0 (nI 20) (nI 0)))] H := hP
    have hD : va_D A [(mo, .inr (12, mdF mq mZ mQ 0 0 (nI 20) (nI 0)))] := hD
    refine lv_istore (lv' := [(5, .int 1), (0, .ref b), (1, .ref ds), (2, .ref mo), (3, .ref ou), (4, .int 0)]) hx hb d_Lw_law_670 hl (by decide) rfl (fun ls hl => ?_)
    refine lv_aload_n hx hb d_Lw_law_672 rfl (lv_at hl 3 rfl) ?_
    refine lv_aload_n hx hb d_Lw_law_673 rfl (lv_at hl 1 rfl) ?_
    refine lv_iload hx hb d_Lw_law_674 (lv_at hl 5 rfl) ?_
    refine lv_iconst (v := 1) hx hb d_Lw_law_676 (by decide) ?_
    refine lv_iadd hx hb d_Lw_law_677 ?_
    refine va_sld hx hb hX hbl hbA hS (i := (0 + 1)) (vin (by decide)) d_Lw_law_678 ?_
    refine lv_topi (fun x11 e10 => ?_)
    obtain rfl : x11 = xs 1 := by rw [e10]; exact congrArg xs (by decide)
    refine lv_aload_n hx hb d_Lw_law_679 rfl (lv_at hl 1 rfl) ?_
    refine lv_iload hx hb d_Lw_law_680 (lv_at hl 5 rfl) ?_
    refine lv_iconst (v := 2) hx hb d_Lw_law_682 (by decide) ?_
    refine lv_iadd hx hb d_Lw_law_683 ?_
    refine va_sld hx hb hX hbl hbA hS (i := (0 + 2)) (vin (by decide)) d_Lw_law_684 ?_
    refine lv_topi (fun x13 e12 => ?_)
    obtain rfl : x13 = xs 2 := by rw [e12]; exact congrArg xs (by decide)
    refine lv_i2l (v := (xs 2).toInt64) hx hb d_Lw_law_685 rfl ?_
    refine lv_bipush (v := 32) hx hb d_Lw_law_686 (by decide) ?_
    refine lv_lshl (v := ((xs 2).toInt64) <<< ((32 : Int32).toInt64 &&& 63)) hx hb d_Lw_law_688 rfl ?_
    refine lv_aload_n hx hb d_Lw_law_689 rfl (lv_at hl 1 rfl) ?_
    refine lv_iload hx hb d_Lw_law_690 (lv_at hl 5 rfl) ?_
    refine lv_iconst (v := 3) hx hb d_Lw_law_692 (by decide) ?_
    refine lv_iadd hx hb d_Lw_law_693 ?_
    refine va_sld hx hb hX hbl hbA hS (i := (0 + 3)) (vin (by decide)) d_Lw_law_694 ?_
    refine lv_topi (fun x15 e14 => ?_)
    obtain rfl : x15 = xs 3 := by rw [e14]; exact congrArg xs (by decide)
    refine lv_i2l (v := (xs 3).toInt64) hx hb d_Lw_law_695 rfl ?_
    refine lv_ldc2 (v := 4294967295) hx hb hown (hg _ k_1418) d_Lw_law_696 ?_
    refine lv_land hx hb d_Lw_law_699 ?_
    refine lv_lor hx hb d_Lw_law_700 ?_
    refine lv_aload_n hx hb d_Lw_law_701 rfl (lv_at hl 1 rfl) ?_
    refine lv_iload hx hb d_Lw_law_702 (lv_at hl 5 rfl) ?_
    refine lv_iconst (v := 4) hx hb d_Lw_law_704 (by decide) ?_
    refine lv_iadd hx hb d_Lw_law_705 ?_
    refine va_sld hx hb hX hbl hbA hS (i := (0 + 4)) (vin (by decide)) d_Lw_law_706 ?_
    refine lv_topi (fun x17 e16 => ?_)
    obtain rfl : x17 = xs 4 := by rw [e16]; exact congrArg xs (by decide)
    have hPc := hP.sub (ws' := [(mo, .inr (12, mdF mq mZ mQ 0 0 (nI 20) (nI 0)))]) [0] rfl
    have hDc := hD.sub (ws' := [(mo, .inr (12, mdF mq mZ mQ 0 0 (nI 20) (nI 0)))]) [0] (by decide) rfl
    have hFc := va_free (wc := [(mo, .inr (12, mdF mq mZ mQ 0 0 (nI 20) (nI 0)))]) hD hS hA [0] rfl
    refine va_calli (va_runV (C := "DoorServerModel") (As := [.int (xs 1), .long ((((xs 2).toInt64) <<< ((32 : Int32).toInt64 &&& 63)) ||| (((xs 3).toInt64) &&& 4294967295)), .int (xs 4)]) (rest := []) ⟨hx, hb, hml, hown, hg⟩ (b_password1 l dC dI cT H.size mo mq mZ mQ 0 0 20 0 (xs 1) ((((xs 2).toInt64) <<< ((32 : Int32).toInt64 &&& 63)) ||| (((xs 3).toInt64) &&& 4294967295)) (xs 4) (h1)) (cwV 3 hg (gI (List.forall_mem_append.mpr ⟨List.forall_mem_cons.mpr ⟨k_1208, List.forall_mem_cons.mpr ⟨k_1209, List.forall_mem_cons.mpr ⟨k_1210, List.forall_mem_cons.mpr ⟨k_13, fun _ h => absurd h List.not_mem_nil⟩⟩⟩⟩, List.forall_mem_cons.mpr ⟨k_1211, fun _ h => h⟩⟩)) rfl rfl rfl (by decide +kernel) ⟨Nat.le_of_ble_eq_true rfl, Nat.le_of_ble_eq_true rfl⟩) ⟨fun a U g mk q => by obtain ⟨q0, q1, qP, qK, qD⟩ := q; exact ⟨q0, q1, qP, va_K.moved (u := U) (U := U.calling g mk a) (Vm.Alike.refl U.vm) qK, qD⟩, va_recv (q0 := 0) (ci := 12) hK hP rfl rfl, fun U hU hW => ⟨rfl, by rw [hU], by rw [hU]; exact hPc, va_K.moved hW.alike hK, hDc.weaken (fun _ _ _ _ => trivial)⟩⟩ rfl rfl hl.1 rfl (lv_room (Nat.le_of_ble_eq_true rfl)) d_Lw_law_707 ⟨Nat.le_of_ble_eq_true rfl, Nat.le_of_ble_eq_true rfl⟩) hS (fun q _ h => hFc q h) hFc (fun rv9 u t H1 locs ht hvm hw hB hz1 hk1 hS => ?_)
    try dsimp only at hw hB
    obtain ⟨hP1, hK1, hD1⟩ := hB
    rw [ht] at hP1
    generalize rv9 = r18 at hw ⊢
    obtain ⟨hP, hD⟩ := va_join (wr := []) (w1 := [(mo, .inr (12, mdF mq mZ mQ 1 0 (nI 20) (nI 0)))]) hP hD [0] [] rfl rfl (by decide) (by decide) hk1 hFc hP1 hD1
    have hw19 := hw
    clear hPc hDc hFc hz1 hk1 hP1 hK1 hD1
    generalize H1 = H at hP hS ⊢
    have hP : va_P (dC, dI) vcl [(mo, .inr (12, mdF mq mZ mQ 1 0 (nI 20) (nI 0)))] H := hP
    have hD : va_D A [(mo, .inr (12, mdF mq mZ mQ 1 0 (nI 20) (nI 0)))] := hD
    refine lv_istore (lv' := [(6, .int r18), (5, .int 1), (0, .ref b), (1, .ref ds), (2, .ref mo), (3, .ref ou), (4, .int 0)]) hx hb d_Lw_law_710 hl (by decide) rfl (fun ls hl => ?_)
    refine lv_aload_n hx hb d_Lw_law_712 rfl (lv_at hl 4 rfl) ?_
    have hPc := hP.sub (ws' := [(mo, .inr (12, mdF mq mZ mQ 1 0 (nI 20) (nI 0)))]) [0] rfl
    have hDc := hD.sub (ws' := [(mo, .inr (12, mdF mq mZ mQ 1 0 (nI 20) (nI 0)))]) [0] (by decide) rfl
    have hFc := va_free (wc := [(mo, .inr (12, mdF mq mZ mQ 1 0 (nI 20) (nI 0)))]) hD hS hA [0] rfl
    refine va_calli (va_runV (C := "DoorServerModel") (As := []) (rest := []) ⟨hx, hb, hml, hown, hg⟩ (m_thrown l dC dI cT H.size mo mq mZ mQ 1 0 20 0 ) (cwV 0 hg (gI (List.forall_mem_append.mpr ⟨List.forall_mem_cons.mpr ⟨k_1157, List.forall_mem_cons.mpr ⟨k_1158, List.forall_mem_cons.mpr ⟨k_1159, List.forall_mem_cons.mpr ⟨k_13, fun _ h => absurd h List.not_mem_nil⟩⟩⟩⟩, List.forall_mem_cons.mpr ⟨k_1160, fun _ h => h⟩⟩)) rfl rfl rfl (by decide +kernel) ⟨Nat.le_of_ble_eq_true rfl, Nat.le_of_ble_eq_true rfl⟩) ⟨fun a U g mk q => by obtain ⟨q0, q1, qP, qK, qD⟩ := q; exact ⟨q0, q1, qP, va_K.moved (u := U) (U := U.calling g mk a) (Vm.Alike.refl U.vm) qK, qD⟩, va_recv (q0 := 0) (ci := 12) hK hP rfl rfl, fun U hU hW => ⟨rfl, by rw [hU], by rw [hU]; exact hPc, va_K.moved hW.alike hK, hDc.weaken (fun _ _ _ _ => trivial)⟩⟩ rfl rfl hl.1 rfl (lv_room (Nat.le_of_ble_eq_true rfl)) d_Lw_law_713 ⟨Nat.le_of_ble_eq_true rfl, Nat.le_of_ble_eq_true rfl⟩) hS (fun q _ h => hFc q h) hFc (fun rv9 u t H1 locs ht hvm hw hB hz1 hk1 hS => ?_)
    try dsimp only at hw hB
    obtain ⟨hP1, hK1, hD1⟩ := hB
    rw [ht] at hP1
    obtain ⟨rfl, hw⟩ := hw
    obtain ⟨hP, hD⟩ := va_join (wr := []) (w1 := []) hP hD [0] [] rfl rfl (by decide) (by decide) hk1 hFc hP1 hD1
    have hw20 := hw
    clear hPc hDc hFc hz1 hk1 hP1 hK1 hD1
    generalize H1 = H at hP hS ⊢
    have hP : va_P (dC, dI) vcl [] H := hP
    have hD : va_D A [] := hD
    refine lv_iload hx hb d_Lw_law_716 (lv_at hl 1 rfl) ?_
    refine lv_icmp_eq (tgt := 723) hx hb d_Lw_law_718 (by decide) (fun hc21 => ?_) (fun hn9 => absurd (rfl) hn9)
    refine lv_iload hx hb d_Lw_law_723 (lv_at hl 1 rfl) ?_
    refine lv_if_ne (tgt := 740) hx hb d_Lw_law_725 (by decide) (fun hc22 => ?_) (fun hn9 => absurd hn9 (by decide))
    refine lv_goto (tgt := 1363) hx hb d_Lw_law_740 (by decide) ?_
    refine W.widen (k := 900) (n := 33000) (Nat.le_of_ble_eq_true rfl) (Nat.le_of_ble_eq_true rfl) ?_
    have hl9 : lv_has ls 8 [(0, .ref b), (4, .int 0)] := lv_sub hl [2, 6] rfl
    exact kk _ _ _ hS hl9
  have h1a : ¬ xs 1 < 0 := fun h9 => h1 (Or.inl h9)
  have h1b : ¬ 3 < xs 1 := fun h9 => h1 (Or.inr h9)
  by_cases h2 : xs 4 < 1 ∨ 60 < xs 4
  · skip
    have hP := hP.sub (ws' := [(ds, .inr (0, [.ref dr, .ref sv])), (mo, .inr (12, mdF mq mZ mQ 0 0 (nI 20) (nI 0)))]) [0, 22] rfl
    have hD := hD.sub (ws' := [(ds, .inr (0, [.ref dr, .ref sv])), (mo, .inr (12, mdF mq mZ mQ 0 0 (nI 20) (nI 0)))]) [0, 22] (by decide) rfl
    refine lv_aload_n hx hb d_Lw_law_631 rfl (lv_at hl 1 rfl) ?_
    refine lv_aload_n hx hb d_Lw_law_632 rfl (lv_at hl 0 rfl) ?_
    refine lv_iload hx hb d_Lw_law_633 (lv_at hl 4 rfl) ?_
    refine lv_iconst (v := 1) hx hb d_Lw_law_635 (by decide) ?_
    refine lv_iadd hx hb d_Lw_law_636 ?_
    refine va_sld hx hb hX hbl hbA hS (i := (0 + 1)) (vin (by decide)) d_Lw_law_637 ?_
    refine lv_topi (fun x24 e23 => ?_)
    obtain rfl : x24 = xs 1 := by rw [e23]; exact congrArg xs (by decide)
    refine lv_aload_n hx hb d_Lw_law_638 rfl (lv_at hl 0 rfl) ?_
    refine lv_iload hx hb d_Lw_law_639 (lv_at hl 4 rfl) ?_
    refine lv_iconst (v := 2) hx hb d_Lw_law_641 (by decide) ?_
    refine lv_iadd hx hb d_Lw_law_642 ?_
    refine va_sld hx hb hX hbl hbA hS (i := (0 + 2)) (vin (by decide)) d_Lw_law_643 ?_
    refine lv_topi (fun x26 e25 => ?_)
    obtain rfl : x26 = xs 2 := by rw [e25]; exact congrArg xs (by decide)
    refine lv_i2l (v := (xs 2).toInt64) hx hb d_Lw_law_644 rfl ?_
    refine lv_bipush (v := 32) hx hb d_Lw_law_645 (by decide) ?_
    refine lv_lshl (v := ((xs 2).toInt64) <<< ((32 : Int32).toInt64 &&& 63)) hx hb d_Lw_law_647 rfl ?_
    refine lv_aload_n hx hb d_Lw_law_648 rfl (lv_at hl 0 rfl) ?_
    refine lv_iload hx hb d_Lw_law_649 (lv_at hl 4 rfl) ?_
    refine lv_iconst (v := 3) hx hb d_Lw_law_651 (by decide) ?_
    refine lv_iadd hx hb d_Lw_law_652 ?_
    refine va_sld hx hb hX hbl hbA hS (i := (0 + 3)) (vin (by decide)) d_Lw_law_653 ?_
    refine lv_topi (fun x28 e27 => ?_)
    obtain rfl : x28 = xs 3 := by rw [e27]; exact congrArg xs (by decide)
    refine lv_i2l (v := (xs 3).toInt64) hx hb d_Lw_law_654 rfl ?_
    refine lv_ldc2 (v := 4294967295) hx hb hown (hg _ k_1418) d_Lw_law_655 ?_
    refine lv_land hx hb d_Lw_law_658 ?_
    refine lv_lor hx hb d_Lw_law_659 ?_
    refine lv_aload_n hx hb d_Lw_law_660 rfl (lv_at hl 0 rfl) ?_
    refine lv_iload hx hb d_Lw_law_661 (lv_at hl 4 rfl) ?_
    refine lv_iconst (v := 4) hx hb d_Lw_law_663 (by decide) ?_
    refine lv_iadd hx hb d_Lw_law_664 ?_
    refine va_sld hx hb hX hbl hbA hS (i := (0 + 4)) (vin (by decide)) d_Lw_law_665 ?_
    refine lv_topi (fun x30 e29 => ?_)
    obtain rfl : x30 = xs 4 := by rw [e29]; exact congrArg xs (by decide)
    refine lv_aload_n hx hb d_Lw_law_666 rfl (lv_at hl 3 rfl) ?_
    have hPc := hP.sub (ws' := [(ds, .inr (0, [.ref dr, .ref sv]))]) [0] rfl
    have hDc := hD.sub (ws' := [(ds, .inr (0, [.ref dr, .ref sv]))]) [0] (by decide) rfl
    have hFc := va_free (wc := [(ds, .inr (0, [.ref dr, .ref sv]))]) hD hS hA [0] rfl
    refine va_calli (xw_runS (As := [.ref ds, .int (xs 1), .long ((((xs 2).toInt64) <<< ((32 : Int32).toInt64 &&& 63)) ||| (((xs 3).toInt64) &&& 4294967295)), .int (xs 4), .ref ou]) (rest := []) ⟨hx, hb, hml, hown, hg⟩ (t_password2 l dC dI cT H.size ds (xs 1) ((((xs 2).toInt64) <<< ((32 : Int32).toInt64 &&& 63)) ||| (((xs 3).toInt64) &&& 4294967295)) (xs 4) dr sv ou (hfl) (h1a) (h1b) (h2)) rfl (gI (List.forall_mem_cons.mpr ⟨k_549, fun _ h => h⟩)) (hg _ k_547) (hg _ k_548) (hg _ k_0) rfl rfl (n := 5) (by decide +kernel) ⟨Nat.le_of_ble_eq_true rfl, Nat.le_of_ble_eq_true rfl⟩ ⟨fun a U g mk q => by obtain ⟨q0, q1, qP, qK, qD, qE⟩ := q; exact ⟨q0, q1, qP, va_K.moved (u := U) (U := U.calling g mk a) (Vm.Alike.refl U.vm) qK, qD, qE.at (State.WarmedH.refl _) (fun _ _ _ => rfl) (fun _ h => h)⟩, fun U hU hW => ⟨rfl, by rw [hU], by rw [hU]; exact hPc, va_K.moved hW.alike hK, hDc.weaken (fun _ _ _ _ => trivial), by rw [hU]; exact hXz.at hW hS.2.1 (fun _ h => h.elim)⟩⟩ rfl rfl hl.1 rfl (lv_room (Nat.le_of_ble_eq_true rfl)) d_Lw_law_667 ⟨Nat.le_of_ble_eq_true rfl, Nat.le_of_ble_eq_true rfl⟩) hS (fun q _ h => hFc q h) hFc (fun rv9 u t H1 locs ht hvm hw hB hz1 hk1 hS => ?_)
    try dsimp only at hw hB
    obtain ⟨hP1, hK1, hD1⟩ := hB
    rw [ht] at hP1
    obtain ⟨rfl, hw⟩ := hw
    obtain ⟨hP, hD⟩ := va_join (wr := [(mo, .inr (12, mdF mq mZ mQ 0 0 (nI 20) (nI 0)))]) (w1 := []) hP hD [0] [1] rfl rfl (by decide) (by decide) hk1 hFc hP1 hD1
    have hw31 := hw
    clear hPc hDc hFc hz1 hk1 hP1 hK1 hD1
    generalize H1 = H at hP hS ⊢
    have hP : va_P (dC, dI) vcl [(mo, .inr (12, mdF mq mZ mQ 0 0 (nI 20) (nI 0)))] H := hP
    have hD : va_D A [(mo, .inr (12, mdF mq mZ mQ 0 0 (nI 20) (nI 0)))] := hD
    refine lv_istore (lv' := [(5, .int 1), (0, .ref b), (1, .ref ds), (2, .ref mo), (3, .ref ou), (4, .int 0)]) hx hb d_Lw_law_670 hl (by decide) rfl (fun ls hl => ?_)
    refine lv_aload_n hx hb d_Lw_law_672 rfl (lv_at hl 3 rfl) ?_
    refine lv_aload_n hx hb d_Lw_law_673 rfl (lv_at hl 1 rfl) ?_
    refine lv_iload hx hb d_Lw_law_674 (lv_at hl 5 rfl) ?_
    refine lv_iconst (v := 1) hx hb d_Lw_law_676 (by decide) ?_
    refine lv_iadd hx hb d_Lw_law_677 ?_
    refine va_sld hx hb hX hbl hbA hS (i := (0 + 1)) (vin (by decide)) d_Lw_law_678 ?_
    refine lv_topi (fun x33 e32 => ?_)
    obtain rfl : x33 = xs 1 := by rw [e32]; exact congrArg xs (by decide)
    refine lv_aload_n hx hb d_Lw_law_679 rfl (lv_at hl 1 rfl) ?_
    refine lv_iload hx hb d_Lw_law_680 (lv_at hl 5 rfl) ?_
    refine lv_iconst (v := 2) hx hb d_Lw_law_682 (by decide) ?_
    refine lv_iadd hx hb d_Lw_law_683 ?_
    refine va_sld hx hb hX hbl hbA hS (i := (0 + 2)) (vin (by decide)) d_Lw_law_684 ?_
    refine lv_topi (fun x35 e34 => ?_)
    obtain rfl : x35 = xs 2 := by rw [e34]; exact congrArg xs (by decide)
    refine lv_i2l (v := (xs 2).toInt64) hx hb d_Lw_law_685 rfl ?_
    refine lv_bipush (v := 32) hx hb d_Lw_law_686 (by decide) ?_
    refine lv_lshl (v := ((xs 2).toInt64) <<< ((32 : Int32).toInt64 &&& 63)) hx hb d_Lw_law_688 rfl ?_
    refine lv_aload_n hx hb d_Lw_law_689 rfl (lv_at hl 1 rfl) ?_
    refine lv_iload hx hb d_Lw_law_690 (lv_at hl 5 rfl) ?_
    refine lv_iconst (v := 3) hx hb d_Lw_law_692 (by decide) ?_
    refine lv_iadd hx hb d_Lw_law_693 ?_
    refine va_sld hx hb hX hbl hbA hS (i := (0 + 3)) (vin (by decide)) d_Lw_law_694 ?_
    refine lv_topi (fun x37 e36 => ?_)
    obtain rfl : x37 = xs 3 := by rw [e36]; exact congrArg xs (by decide)
    refine lv_i2l (v := (xs 3).toInt64) hx hb d_Lw_law_695 rfl ?_
    refine lv_ldc2 (v := 4294967295) hx hb hown (hg _ k_1418) d_Lw_law_696 ?_
    refine lv_land hx hb d_Lw_law_699 ?_
    refine lv_lor hx hb d_Lw_law_700 ?_
    refine lv_aload_n hx hb d_Lw_law_701 rfl (lv_at hl 1 rfl) ?_
    refine lv_iload hx hb d_Lw_law_702 (lv_at hl 5 rfl) ?_
    refine lv_iconst (v := 4) hx hb d_Lw_law_704 (by decide) ?_
    refine lv_iadd hx hb d_Lw_law_705 ?_
    refine va_sld hx hb hX hbl hbA hS (i := (0 + 4)) (vin (by decide)) d_Lw_law_706 ?_
    refine lv_topi (fun x39 e38 => ?_)
    obtain rfl : x39 = xs 4 := by rw [e38]; exact congrArg xs (by decide)
    have hPc := hP.sub (ws' := [(mo, .inr (12, mdF mq mZ mQ 0 0 (nI 20) (nI 0)))]) [0] rfl
    have hDc := hD.sub (ws' := [(mo, .inr (12, mdF mq mZ mQ 0 0 (nI 20) (nI 0)))]) [0] (by decide) rfl
    have hFc := va_free (wc := [(mo, .inr (12, mdF mq mZ mQ 0 0 (nI 20) (nI 0)))]) hD hS hA [0] rfl
    refine va_calli (va_runV (C := "DoorServerModel") (As := [.int (xs 1), .long ((((xs 2).toInt64) <<< ((32 : Int32).toInt64 &&& 63)) ||| (((xs 3).toInt64) &&& 4294967295)), .int (xs 4)]) (rest := []) ⟨hx, hb, hml, hown, hg⟩ (b_password2 l dC dI cT H.size mo mq mZ mQ 0 0 20 0 (xs 1) ((((xs 2).toInt64) <<< ((32 : Int32).toInt64 &&& 63)) ||| (((xs 3).toInt64) &&& 4294967295)) (xs 4) (h1a) (h1b) (h2)) (cwV 3 hg (gI (List.forall_mem_append.mpr ⟨List.forall_mem_cons.mpr ⟨k_1208, List.forall_mem_cons.mpr ⟨k_1209, List.forall_mem_cons.mpr ⟨k_1210, List.forall_mem_cons.mpr ⟨k_13, fun _ h => absurd h List.not_mem_nil⟩⟩⟩⟩, List.forall_mem_cons.mpr ⟨k_1211, fun _ h => h⟩⟩)) rfl rfl rfl (by decide +kernel) ⟨Nat.le_of_ble_eq_true rfl, Nat.le_of_ble_eq_true rfl⟩) ⟨fun a U g mk q => by obtain ⟨q0, q1, qP, qK, qD⟩ := q; exact ⟨q0, q1, qP, va_K.moved (u := U) (U := U.calling g mk a) (Vm.Alike.refl U.vm) qK, qD⟩, va_recv (q0 := 0) (ci := 12) hK hP rfl rfl, fun U hU hW => ⟨rfl, by rw [hU], by rw [hU]; exact hPc, va_K.moved hW.alike hK, hDc.weaken (fun _ _ _ _ => trivial)⟩⟩ rfl rfl hl.1 rfl (lv_room (Nat.le_of_ble_eq_true rfl)) d_Lw_law_707 ⟨Nat.le_of_ble_eq_true rfl, Nat.le_of_ble_eq_true rfl⟩) hS (fun q _ h => hFc q h) hFc (fun rv9 u t H1 locs ht hvm hw hB hz1 hk1 hS => ?_)
    try dsimp only at hw hB
    obtain ⟨hP1, hK1, hD1⟩ := hB
    rw [ht] at hP1
    generalize rv9 = r40 at hw ⊢
    obtain ⟨hP, hD⟩ := va_join (wr := []) (w1 := [(mo, .inr (12, mdF mq mZ mQ 1 0 (nI 20) (nI 0)))]) hP hD [0] [] rfl rfl (by decide) (by decide) hk1 hFc hP1 hD1
    have hw41 := hw
    clear hPc hDc hFc hz1 hk1 hP1 hK1 hD1
    generalize H1 = H at hP hS ⊢
    have hP : va_P (dC, dI) vcl [(mo, .inr (12, mdF mq mZ mQ 1 0 (nI 20) (nI 0)))] H := hP
    have hD : va_D A [(mo, .inr (12, mdF mq mZ mQ 1 0 (nI 20) (nI 0)))] := hD
    refine lv_istore (lv' := [(6, .int r40), (5, .int 1), (0, .ref b), (1, .ref ds), (2, .ref mo), (3, .ref ou), (4, .int 0)]) hx hb d_Lw_law_710 hl (by decide) rfl (fun ls hl => ?_)
    refine lv_aload_n hx hb d_Lw_law_712 rfl (lv_at hl 4 rfl) ?_
    have hPc := hP.sub (ws' := [(mo, .inr (12, mdF mq mZ mQ 1 0 (nI 20) (nI 0)))]) [0] rfl
    have hDc := hD.sub (ws' := [(mo, .inr (12, mdF mq mZ mQ 1 0 (nI 20) (nI 0)))]) [0] (by decide) rfl
    have hFc := va_free (wc := [(mo, .inr (12, mdF mq mZ mQ 1 0 (nI 20) (nI 0)))]) hD hS hA [0] rfl
    refine va_calli (va_runV (C := "DoorServerModel") (As := []) (rest := []) ⟨hx, hb, hml, hown, hg⟩ (m_thrown l dC dI cT H.size mo mq mZ mQ 1 0 20 0 ) (cwV 0 hg (gI (List.forall_mem_append.mpr ⟨List.forall_mem_cons.mpr ⟨k_1157, List.forall_mem_cons.mpr ⟨k_1158, List.forall_mem_cons.mpr ⟨k_1159, List.forall_mem_cons.mpr ⟨k_13, fun _ h => absurd h List.not_mem_nil⟩⟩⟩⟩, List.forall_mem_cons.mpr ⟨k_1160, fun _ h => h⟩⟩)) rfl rfl rfl (by decide +kernel) ⟨Nat.le_of_ble_eq_true rfl, Nat.le_of_ble_eq_true rfl⟩) ⟨fun a U g mk q => by obtain ⟨q0, q1, qP, qK, qD⟩ := q; exact ⟨q0, q1, qP, va_K.moved (u := U) (U := U.calling g mk a) (Vm.Alike.refl U.vm) qK, qD⟩, va_recv (q0 := 0) (ci := 12) hK hP rfl rfl, fun U hU hW => ⟨rfl, by rw [hU], by rw [hU]; exact hPc, va_K.moved hW.alike hK, hDc.weaken (fun _ _ _ _ => trivial)⟩⟩ rfl rfl hl.1 rfl (lv_room (Nat.le_of_ble_eq_true rfl)) d_Lw_law_713 ⟨Nat.le_of_ble_eq_true rfl, Nat.le_of_ble_eq_true rfl⟩) hS (fun q _ h => hFc q h) hFc (fun rv9 u t H1 locs ht hvm hw hB hz1 hk1 hS => ?_)
    try dsimp only at hw hB
    obtain ⟨hP1, hK1, hD1⟩ := hB
    rw [ht] at hP1
    obtain ⟨rfl, hw⟩ := hw
    obtain ⟨hP, hD⟩ := va_join (wr := []) (w1 := []) hP hD [0] [] rfl rfl (by decide) (by decide) hk1 hFc hP1 hD1
    have hw42 := hw
    clear hPc hDc hFc hz1 hk1 hP1 hK1 hD1
    generalize H1 = H at hP hS ⊢
    have hP : va_P (dC, dI) vcl [] H := hP
    have hD : va_D A [] := hD
    refine lv_iload hx hb d_Lw_law_716 (lv_at hl 1 rfl) ?_
    refine lv_icmp_eq (tgt := 723) hx hb d_Lw_law_718 (by decide) (fun hc43 => ?_) (fun hn9 => absurd (rfl) hn9)
    refine lv_iload hx hb d_Lw_law_723 (lv_at hl 1 rfl) ?_
    refine lv_if_ne (tgt := 740) hx hb d_Lw_law_725 (by decide) (fun hc44 => ?_) (fun hn9 => absurd hn9 (by decide))
    refine lv_goto (tgt := 1363) hx hb d_Lw_law_740 (by decide) ?_
    refine W.widen (k := 900) (n := 33000) (Nat.le_of_ble_eq_true rfl) (Nat.le_of_ble_eq_true rfl) ?_
    have hl9 : lv_has ls 8 [(0, .ref b), (4, .int 0)] := lv_sub hl [2, 6] rfl
    exact kk _ _ _ hS hl9
  have h2a : ¬ xs 4 < 1 := fun h9 => h2 (Or.inl h9)
  have h2b : ¬ 60 < xs 4 := fun h9 => h2 (Or.inr h9)
  obtain ⟨k, hk1, hk2, he⟩ := rng_1 (M := 60) (n := 60) (by decide) (by decide) h2a h2b
  have hs1 := hst1 h1a h1b
  have hP := hP.sub (ws' := [(ds, .inr (0, [.ref dr, .ref sv])), (dr, .inr (2, [.ref rr, .int (nI 20)])), (rr, .inl ((cT 0), 1000, .inl df)), (sv, .inr (5, [.ref se, .ref pw, .ref g0, .ref ty, .ref an, .ref aw, .ref ts, .ref ss, .ref rq, .int 0, .int 0, .int 0])), (se, .inl ((cT 2), 4, .inr (.inr (.inr (.inr gs))))), (sh, .inr (1, [.ref sr, .int (nI 1)])), (sr, .inl ((cT 0), 40, .inl sf)), (g0, .inr (3, [.ref tx, .ref wo, .ref di, .int 0, .int 0, .int 0, .int 0])), (tx, .inr (1, [.ref tr, .int (nI 0)])), (tr, .inl ((cT 0), 1192, .inl (fun _ => 0))), (wo, .inl ((cT 0), 16, .inl (fun _ => 0))), (di, .inl ((cT 0), 16, .inl (fun _ => 0))), (mo, .inr (12, mdF mq mZ mQ 0 0 (nI 20) (nI 0))), (mq 0, .inl ((cT 1), 64, .inr (.inl mS))), (mq 3, .inl ((cT 0), 160, .inl mc)), (mq 4, .inl ((cT 0), 4, .inl mz)), (mq 7, .inl ((cT 0), 1000, .inl mf)), (mq 9, .inl ((cT 0), 1400, .inl (fun _ => 0))), (mq 11, .inl ((cT 0), 16, .inl (fun _ => 0))), (ou, .inl ((cT 1), 1, .inr (.inl fo)))]) [0, 1, 2, 3, 4, 5, 6, 10, 11, 12, 13, 14, 22, 23, 24, 25, 28, 29, 30, 32] rfl
  have hD := hD.sub (ws' := [(ds, .inr (0, [.ref dr, .ref sv])), (dr, .inr (2, [.ref rr, .int (nI 20)])), (rr, .inl ((cT 0), 1000, .inl df)), (sv, .inr (5, [.ref se, .ref pw, .ref g0, .ref ty, .ref an, .ref aw, .ref ts, .ref ss, .ref rq, .int 0, .int 0, .int 0])), (se, .inl ((cT 2), 4, .inr (.inr (.inr (.inr gs))))), (sh, .inr (1, [.ref sr, .int (nI 1)])), (sr, .inl ((cT 0), 40, .inl sf)), (g0, .inr (3, [.ref tx, .ref wo, .ref di, .int 0, .int 0, .int 0, .int 0])), (tx, .inr (1, [.ref tr, .int (nI 0)])), (tr, .inl ((cT 0), 1192, .inl (fun _ => 0))), (wo, .inl ((cT 0), 16, .inl (fun _ => 0))), (di, .inl ((cT 0), 16, .inl (fun _ => 0))), (mo, .inr (12, mdF mq mZ mQ 0 0 (nI 20) (nI 0))), (mq 0, .inl ((cT 1), 64, .inr (.inl mS))), (mq 3, .inl ((cT 0), 160, .inl mc)), (mq 4, .inl ((cT 0), 4, .inl mz)), (mq 7, .inl ((cT 0), 1000, .inl mf)), (mq 9, .inl ((cT 0), 1400, .inl (fun _ => 0))), (mq 11, .inl ((cT 0), 16, .inl (fun _ => 0))), (ou, .inl ((cT 1), 1, .inr (.inl fo)))]) [0, 1, 2, 3, 4, 5, 6, 10, 11, 12, 13, 14, 22, 23, 24, 25, 28, 29, 30, 32] (by decide) rfl
  refine lv_aload_n hx hb d_Lw_law_631 rfl (lv_at hl 1 rfl) ?_
  refine lv_aload_n hx hb d_Lw_law_632 rfl (lv_at hl 0 rfl) ?_
  refine lv_iload hx hb d_Lw_law_633 (lv_at hl 4 rfl) ?_
  refine lv_iconst (v := 1) hx hb d_Lw_law_635 (by decide) ?_
  refine lv_iadd hx hb d_Lw_law_636 ?_
  refine va_sld hx hb hX hbl hbA hS (i := (0 + 1)) (vin (by decide)) d_Lw_law_637 ?_
  refine lv_topi (fun x46 e45 => ?_)
  obtain rfl : x46 = nI st := by rw [e45]; exact (congrArg xs (by decide)).trans (hs1)
  refine lv_aload_n hx hb d_Lw_law_638 rfl (lv_at hl 0 rfl) ?_
  refine lv_iload hx hb d_Lw_law_639 (lv_at hl 4 rfl) ?_
  refine lv_iconst (v := 2) hx hb d_Lw_law_641 (by decide) ?_
  refine lv_iadd hx hb d_Lw_law_642 ?_
  refine va_sld hx hb hX hbl hbA hS (i := (0 + 2)) (vin (by decide)) d_Lw_law_643 ?_
  refine lv_topi (fun x48 e47 => ?_)
  obtain rfl : x48 = xs 2 := by rw [e47]; exact congrArg xs (by decide)
  refine lv_i2l (v := (xs 2).toInt64) hx hb d_Lw_law_644 rfl ?_
  refine lv_bipush (v := 32) hx hb d_Lw_law_645 (by decide) ?_
  refine lv_lshl (v := ((xs 2).toInt64) <<< ((32 : Int32).toInt64 &&& 63)) hx hb d_Lw_law_647 rfl ?_
  refine lv_aload_n hx hb d_Lw_law_648 rfl (lv_at hl 0 rfl) ?_
  refine lv_iload hx hb d_Lw_law_649 (lv_at hl 4 rfl) ?_
  refine lv_iconst (v := 3) hx hb d_Lw_law_651 (by decide) ?_
  refine lv_iadd hx hb d_Lw_law_652 ?_
  refine va_sld hx hb hX hbl hbA hS (i := (0 + 3)) (vin (by decide)) d_Lw_law_653 ?_
  refine lv_topi (fun x50 e49 => ?_)
  obtain rfl : x50 = xs 3 := by rw [e49]; exact congrArg xs (by decide)
  refine lv_i2l (v := (xs 3).toInt64) hx hb d_Lw_law_654 rfl ?_
  refine lv_ldc2 (v := 4294967295) hx hb hown (hg _ k_1418) d_Lw_law_655 ?_
  refine lv_land hx hb d_Lw_law_658 ?_
  refine lv_lor hx hb d_Lw_law_659 ?_
  refine lv_aload_n hx hb d_Lw_law_660 rfl (lv_at hl 0 rfl) ?_
  refine lv_iload hx hb d_Lw_law_661 (lv_at hl 4 rfl) ?_
  refine lv_iconst (v := 4) hx hb d_Lw_law_663 (by decide) ?_
  refine lv_iadd hx hb d_Lw_law_664 ?_
  refine va_sld hx hb hX hbl hbA hS (i := (0 + 4)) (vin (by decide)) d_Lw_law_665 ?_
  refine lv_topi (fun x52 e51 => ?_)
  obtain rfl : x52 = nI k := by rw [e51]; exact (congrArg xs (by decide)).trans (he)
  refine lv_aload_n hx hb d_Lw_law_666 rfl (lv_at hl 3 rfl) ?_
  have hPc := hP.sub (ws' := [(ds, .inr (0, [.ref dr, .ref sv])), (dr, .inr (2, [.ref rr, .int (nI 20)])), (rr, .inl ((cT 0), 1000, .inl df)), (sv, .inr (5, [.ref se, .ref pw, .ref g0, .ref ty, .ref an, .ref aw, .ref ts, .ref ss, .ref rq, .int 0, .int 0, .int 0])), (se, .inl ((cT 2), 4, .inr (.inr (.inr (.inr gs))))), (sh, .inr (1, [.ref sr, .int (nI 1)])), (sr, .inl ((cT 0), 40, .inl sf)), (g0, .inr (3, [.ref tx, .ref wo, .ref di, .int 0, .int 0, .int 0, .int 0])), (tx, .inr (1, [.ref tr, .int (nI 0)])), (tr, .inl ((cT 0), 1192, .inl (fun _ => 0))), (wo, .inl ((cT 0), 16, .inl (fun _ => 0))), (di, .inl ((cT 0), 16, .inl (fun _ => 0))), (ou, .inl ((cT 1), 1, .inr (.inl fo)))]) [0, 1, 2, 3, 4, 5, 6, 7, 8, 9, 10, 11, 19] rfl
  have hDc := hD.sub (ws' := [(ds, .inr (0, [.ref dr, .ref sv])), (dr, .inr (2, [.ref rr, .int (nI 20)])), (rr, .inl ((cT 0), 1000, .inl df)), (sv, .inr (5, [.ref se, .ref pw, .ref g0, .ref ty, .ref an, .ref aw, .ref ts, .ref ss, .ref rq, .int 0, .int 0, .int 0])), (se, .inl ((cT 2), 4, .inr (.inr (.inr (.inr gs))))), (sh, .inr (1, [.ref sr, .int (nI 1)])), (sr, .inl ((cT 0), 40, .inl sf)), (g0, .inr (3, [.ref tx, .ref wo, .ref di, .int 0, .int 0, .int 0, .int 0])), (tx, .inr (1, [.ref tr, .int (nI 0)])), (tr, .inl ((cT 0), 1192, .inl (fun _ => 0))), (wo, .inl ((cT 0), 16, .inl (fun _ => 0))), (di, .inl ((cT 0), 16, .inl (fun _ => 0))), (ou, .inl ((cT 1), 1, .inr (.inl fo)))]) [0, 1, 2, 3, 4, 5, 6, 7, 8, 9, 10, 11, 19] (by decide) rfl
  have hFc := va_free (wc := [(ds, .inr (0, [.ref dr, .ref sv])), (dr, .inr (2, [.ref rr, .int (nI 20)])), (rr, .inl ((cT 0), 1000, .inl df)), (sv, .inr (5, [.ref se, .ref pw, .ref g0, .ref ty, .ref an, .ref aw, .ref ts, .ref ss, .ref rq, .int 0, .int 0, .int 0])), (se, .inl ((cT 2), 4, .inr (.inr (.inr (.inr gs))))), (sh, .inr (1, [.ref sr, .int (nI 1)])), (sr, .inl ((cT 0), 40, .inl sf)), (g0, .inr (3, [.ref tx, .ref wo, .ref di, .int 0, .int 0, .int 0, .int 0])), (tx, .inr (1, [.ref tr, .int (nI 0)])), (tr, .inl ((cT 0), 1192, .inl (fun _ => 0))), (wo, .inl ((cT 0), 16, .inl (fun _ => 0))), (di, .inl ((cT 0), 16, .inl (fun _ => 0))), (ou, .inl ((cT 1), 1, .inr (.inl fo)))]) hD hS hA [0, 1, 2, 3, 4, 5, 6, 7, 8, 9, 10, 11, 19] rfl
  refine va_calli (xw_runS (As := [.ref ds, .int (nI st), .long ((((xs 2).toInt64) <<< ((32 : Int32).toInt64 &&& 63)) ||| (((xs 3).toInt64) &&& 4294967295)), .int (nI k), .ref ou]) (rest := []) ⟨hx, hb, hml, hown, hg⟩ (l_password l dC dI cT H.size ds dr sv rr se pw ty an aw ts ss rq 0 0 0 sh sr 40 1 sf gs st g0 tx tr wo di 0 0 0 0 0 (fun _ => 0) (fun _ => 0) (fun _ => 0) df ((((xs 2).toInt64) <<< ((32 : Int32).toInt64 &&& 63)) ||| (((xs 3).toInt64) &&& 4294967295)) k ou fo (hst) (hgs) (by decide) (by decide) (by decide) (hk1) (hk2)) rfl (gI (List.forall_mem_cons.mpr ⟨k_549, fun _ h => h⟩)) (hg _ k_547) (hg _ k_548) (hg _ k_0) rfl rfl (n := 5) (by decide +kernel) ⟨Nat.le_of_ble_eq_true rfl, Nat.le_of_ble_eq_true rfl⟩ ⟨fun a U g mk q => by obtain ⟨q0, q1, qP, qK, qD, qE⟩ := q; exact ⟨q0, q1, qP, va_K.moved (u := U) (U := U.calling g mk a) (Vm.Alike.refl U.vm) qK, qD, qE.at (State.WarmedH.refl _) (fun _ _ _ => rfl) (fun _ h => h)⟩, fun U hU hW => ⟨rfl, by rw [hU], by rw [hU]; exact hPc, va_K.moved hW.alike hK, hDc.weaken (fun _ _ _ _ => trivial), by rw [hU]; exact hXm.at hW hS.2.1 hFc⟩⟩ rfl rfl hl.1 rfl (lv_room (Nat.le_of_ble_eq_true rfl)) d_Lw_law_667 ⟨Nat.le_of_ble_eq_true rfl, Nat.le_of_ble_eq_true rfl⟩) hS (fun q _ h => hFc q h) hFc (fun rv9 u t H1 locs ht hvm hw hB hz1 hk1 hS => ?_)
  try dsimp only at hw hB
  obtain ⟨hP1, hK1, hD1⟩ := hB
  rw [ht] at hP1
  obtain ⟨rfl, hw⟩ := hw
  obtain ⟨hP, hD⟩ := va_join (wr := [(mo, .inr (12, mdF mq mZ mQ 0 0 (nI 20) (nI 0))), (mq 0, .inl ((cT 1), 64, .inr (.inl mS))), (mq 3, .inl ((cT 0), 160, .inl mc)), (mq 4, .inl ((cT 0), 4, .inl mz)), (mq 7, .inl ((cT 0), 1000, .inl mf)), (mq 9, .inl ((cT 0), 1400, .inl (fun _ => 0))), (mq 11, .inl ((cT 0), 16, .inl (fun _ => 0)))]) (w1 := [(ou, .inl ((cT 1), 1, .inr (.inl (vp_updL fo (0 : Int32).toNatClampNeg ((nI (22 + (k + 15) / 16 * 16)).toInt64)))))]) hP hD [0, 1, 2, 3, 4, 5, 6, 7, 8, 9, 10, 11, 19] [12, 13, 14, 15, 16, 17, 18] rfl rfl (by decide) (by decide) hk1 hFc hP1 hD1
  have hw53 := hw
  clear hPc hDc hFc hz1 hk1 hP1 hK1 hD1
  generalize H1 = H at hP hS ⊢
  have hP : va_P (dC, dI) vcl [(mo, .inr (12, mdF mq mZ mQ 0 0 (nI 20) (nI 0))), (mq 0, .inl ((cT 1), 64, .inr (.inl mS))), (mq 3, .inl ((cT 0), 160, .inl mc)), (mq 4, .inl ((cT 0), 4, .inl mz)), (mq 7, .inl ((cT 0), 1000, .inl mf)), (mq 9, .inl ((cT 0), 1400, .inl (fun _ => 0))), (mq 11, .inl ((cT 0), 16, .inl (fun _ => 0))), (ou, .inl ((cT 1), 1, .inr (.inl (vp_updL fo (0 : Int32).toNatClampNeg ((nI (22 + (k + 15) / 16 * 16)).toInt64)))))] H := hP
  have hD : va_D A [(mo, .inr (12, mdF mq mZ mQ 0 0 (nI 20) (nI 0))), (mq 0, .inl ((cT 1), 64, .inr (.inl mS))), (mq 3, .inl ((cT 0), 160, .inl mc)), (mq 4, .inl ((cT 0), 4, .inl mz)), (mq 7, .inl ((cT 0), 1000, .inl mf)), (mq 9, .inl ((cT 0), 1400, .inl (fun _ => 0))), (mq 11, .inl ((cT 0), 16, .inl (fun _ => 0))), (ou, .inl ((cT 1), 1, .inr (.inl (vp_updL fo (0 : Int32).toNatClampNeg ((nI (22 + (k + 15) / 16 * 16)).toInt64)))))] := hD
  refine lv_istore (lv' := [(5, .int 0), (0, .ref b), (1, .ref ds), (2, .ref mo), (3, .ref ou), (4, .int 0)]) hx hb d_Lw_law_670 hl (by decide) rfl (fun ls hl => ?_)
  refine lv_aload_n hx hb d_Lw_law_672 rfl (lv_at hl 3 rfl) ?_
  refine lv_aload_n hx hb d_Lw_law_673 rfl (lv_at hl 1 rfl) ?_
  refine lv_iload hx hb d_Lw_law_674 (lv_at hl 5 rfl) ?_
  refine lv_iconst (v := 1) hx hb d_Lw_law_676 (by decide) ?_
  refine lv_iadd hx hb d_Lw_law_677 ?_
  refine va_sld hx hb hX hbl hbA hS (i := (0 + 1)) (vin (by decide)) d_Lw_law_678 ?_
  refine lv_topi (fun x55 e54 => ?_)
  obtain rfl : x55 = nI st := by rw [e54]; exact (congrArg xs (by decide)).trans (hs1)
  refine lv_aload_n hx hb d_Lw_law_679 rfl (lv_at hl 1 rfl) ?_
  refine lv_iload hx hb d_Lw_law_680 (lv_at hl 5 rfl) ?_
  refine lv_iconst (v := 2) hx hb d_Lw_law_682 (by decide) ?_
  refine lv_iadd hx hb d_Lw_law_683 ?_
  refine va_sld hx hb hX hbl hbA hS (i := (0 + 2)) (vin (by decide)) d_Lw_law_684 ?_
  refine lv_topi (fun x57 e56 => ?_)
  obtain rfl : x57 = xs 2 := by rw [e56]; exact congrArg xs (by decide)
  refine lv_i2l (v := (xs 2).toInt64) hx hb d_Lw_law_685 rfl ?_
  refine lv_bipush (v := 32) hx hb d_Lw_law_686 (by decide) ?_
  refine lv_lshl (v := ((xs 2).toInt64) <<< ((32 : Int32).toInt64 &&& 63)) hx hb d_Lw_law_688 rfl ?_
  refine lv_aload_n hx hb d_Lw_law_689 rfl (lv_at hl 1 rfl) ?_
  refine lv_iload hx hb d_Lw_law_690 (lv_at hl 5 rfl) ?_
  refine lv_iconst (v := 3) hx hb d_Lw_law_692 (by decide) ?_
  refine lv_iadd hx hb d_Lw_law_693 ?_
  refine va_sld hx hb hX hbl hbA hS (i := (0 + 3)) (vin (by decide)) d_Lw_law_694 ?_
  refine lv_topi (fun x59 e58 => ?_)
  obtain rfl : x59 = xs 3 := by rw [e58]; exact congrArg xs (by decide)
  refine lv_i2l (v := (xs 3).toInt64) hx hb d_Lw_law_695 rfl ?_
  refine lv_ldc2 (v := 4294967295) hx hb hown (hg _ k_1418) d_Lw_law_696 ?_
  refine lv_land hx hb d_Lw_law_699 ?_
  refine lv_lor hx hb d_Lw_law_700 ?_
  refine lv_aload_n hx hb d_Lw_law_701 rfl (lv_at hl 1 rfl) ?_
  refine lv_iload hx hb d_Lw_law_702 (lv_at hl 5 rfl) ?_
  refine lv_iconst (v := 4) hx hb d_Lw_law_704 (by decide) ?_
  refine lv_iadd hx hb d_Lw_law_705 ?_
  refine va_sld hx hb hX hbl hbA hS (i := (0 + 4)) (vin (by decide)) d_Lw_law_706 ?_
  refine lv_topi (fun x61 e60 => ?_)
  obtain rfl : x61 = nI k := by rw [e60]; exact (congrArg xs (by decide)).trans (he)
  have hPc := hP.sub (ws' := [(mo, .inr (12, mdF mq mZ mQ 0 0 (nI 20) (nI 0))), (mq 9, .inl ((cT 0), 1400, .inl (fun _ => 0))), (mq 3, .inl ((cT 0), 160, .inl mc)), (mq 4, .inl ((cT 0), 4, .inl mz)), (mq 7, .inl ((cT 0), 1000, .inl mf)), (mq 0, .inl ((cT 1), 64, .inr (.inl mS))), (mq 11, .inl ((cT 0), 16, .inl (fun _ => 0)))]) [0, 5, 2, 3, 4, 1, 6] rfl
  have hDc := hD.sub (ws' := [(mo, .inr (12, mdF mq mZ mQ 0 0 (nI 20) (nI 0))), (mq 9, .inl ((cT 0), 1400, .inl (fun _ => 0))), (mq 3, .inl ((cT 0), 160, .inl mc)), (mq 4, .inl ((cT 0), 4, .inl mz)), (mq 7, .inl ((cT 0), 1000, .inl mf)), (mq 0, .inl ((cT 1), 64, .inr (.inl mS))), (mq 11, .inl ((cT 0), 16, .inl (fun _ => 0)))]) [0, 5, 2, 3, 4, 1, 6] (by decide) rfl
  have hFc := va_free (wc := [(mo, .inr (12, mdF mq mZ mQ 0 0 (nI 20) (nI 0))), (mq 9, .inl ((cT 0), 1400, .inl (fun _ => 0))), (mq 3, .inl ((cT 0), 160, .inl mc)), (mq 4, .inl ((cT 0), 4, .inl mz)), (mq 7, .inl ((cT 0), 1000, .inl mf)), (mq 0, .inl ((cT 1), 64, .inr (.inl mS))), (mq 11, .inl ((cT 0), 16, .inl (fun _ => 0)))]) hD hS hA [0, 5, 2, 3, 4, 1, 6] rfl
  refine va_calli (va_runV (C := "DoorServerModel") (As := [.int (nI st), .long ((((xs 2).toInt64) <<< ((32 : Int32).toInt64 &&& 63)) ||| (((xs 3).toInt64) &&& 4294967295)), .int (nI k)]) (rest := []) ⟨hx, hb, hml, hown, hg⟩ (o_password l dC dI cT H.size mo mq mZ mQ 0 0 20 0 (fun _ => 0) mS (fun _ => 0) mc mz st 1 mf ((((xs 2).toInt64) <<< ((32 : Int32).toInt64 &&& 63)) ||| (((xs 3).toInt64) &&& 4294967295)) k (hst) (hmz st hst) (by decide) (hk1) (hk2)) (cwV 3 hg (gI (List.forall_mem_append.mpr ⟨List.forall_mem_cons.mpr ⟨k_1208, List.forall_mem_cons.mpr ⟨k_1209, List.forall_mem_cons.mpr ⟨k_1210, List.forall_mem_cons.mpr ⟨k_13, fun _ h => absurd h List.not_mem_nil⟩⟩⟩⟩, List.forall_mem_cons.mpr ⟨k_1211, fun _ h => h⟩⟩)) rfl rfl rfl (by decide +kernel) ⟨Nat.le_of_ble_eq_true rfl, Nat.le_of_ble_eq_true rfl⟩) ⟨fun a U g mk q => by obtain ⟨q0, q1, qP, qK, qD⟩ := q; exact ⟨q0, q1, qP, va_K.moved (u := U) (U := U.calling g mk a) (Vm.Alike.refl U.vm) qK, qD⟩, va_recv (q0 := 0) (ci := 12) hK hP rfl rfl, fun U hU hW => ⟨rfl, by rw [hU], by rw [hU]; exact hPc, va_K.moved hW.alike hK, hDc.weaken (fun _ _ _ _ => trivial)⟩⟩ rfl rfl hl.1 rfl (lv_room (Nat.le_of_ble_eq_true rfl)) d_Lw_law_707 ⟨Nat.le_of_ble_eq_true rfl, Nat.le_of_ble_eq_true rfl⟩) hS (fun q _ h => hFc q h) hFc (fun rv9 u t H1 locs ht hvm hw hB hz1 hk1 hS => ?_)
  try dsimp only at hw hB
  obtain ⟨hP1, hK1, hD1⟩ := hB
  rw [ht] at hP1
  obtain ⟨rfl, hw⟩ := hw
  obtain ⟨hP, hD⟩ := va_join (wr := [(ou, .inl ((cT 1), 1, .inr (.inl (vp_updL fo (0 : Int32).toNatClampNeg ((nI (22 + (k + 15) / 16 * 16)).toInt64)))))]) (w1 := [(mo, .inr (12, mdF mq mZ mQ 0 0 (nI (22 + (k + 15) / 16 * 16)) (nI 0)))]) hP hD [0, 5, 2, 3, 4, 1, 6] [7] rfl rfl (by decide) (by decide) hk1 hFc hP1 hD1
  have hw62 := hw
  clear hPc hDc hFc hz1 hk1 hP1 hK1 hD1
  generalize H1 = H at hP hS ⊢
  have hP : va_P (dC, dI) vcl [(ou, .inl ((cT 1), 1, .inr (.inl (vp_updL fo (0 : Int32).toNatClampNeg ((nI (22 + (k + 15) / 16 * 16)).toInt64))))), (mo, .inr (12, mdF mq mZ mQ 0 0 (nI (22 + (k + 15) / 16 * 16)) (nI 0)))] H := hP
  have hD : va_D A [(ou, .inl ((cT 1), 1, .inr (.inl (vp_updL fo (0 : Int32).toNatClampNeg ((nI (22 + (k + 15) / 16 * 16)).toInt64))))), (mo, .inr (12, mdF mq mZ mQ 0 0 (nI (22 + (k + 15) / 16 * 16)) (nI 0)))] := hD
  refine lv_istore (lv' := [(6, .int (nI (22 + (k + 15) / 16 * 16))), (5, .int 0), (0, .ref b), (1, .ref ds), (2, .ref mo), (3, .ref ou), (4, .int 0)]) hx hb d_Lw_law_710 hl (by decide) rfl (fun ls hl => ?_)
  refine lv_aload_n hx hb d_Lw_law_712 rfl (lv_at hl 4 rfl) ?_
  have hPc := hP.sub (ws' := [(mo, .inr (12, mdF mq mZ mQ 0 0 (nI (22 + (k + 15) / 16 * 16)) (nI 0)))]) [1] rfl
  have hDc := hD.sub (ws' := [(mo, .inr (12, mdF mq mZ mQ 0 0 (nI (22 + (k + 15) / 16 * 16)) (nI 0)))]) [1] (by decide) rfl
  have hFc := va_free (wc := [(mo, .inr (12, mdF mq mZ mQ 0 0 (nI (22 + (k + 15) / 16 * 16)) (nI 0)))]) hD hS hA [1] rfl
  refine va_calli (va_runV (C := "DoorServerModel") (As := []) (rest := []) ⟨hx, hb, hml, hown, hg⟩ (m_thrown l dC dI cT H.size mo mq mZ mQ 0 0 (22 + (k + 15) / 16 * 16) 0 ) (cwV 0 hg (gI (List.forall_mem_append.mpr ⟨List.forall_mem_cons.mpr ⟨k_1157, List.forall_mem_cons.mpr ⟨k_1158, List.forall_mem_cons.mpr ⟨k_1159, List.forall_mem_cons.mpr ⟨k_13, fun _ h => absurd h List.not_mem_nil⟩⟩⟩⟩, List.forall_mem_cons.mpr ⟨k_1160, fun _ h => h⟩⟩)) rfl rfl rfl (by decide +kernel) ⟨Nat.le_of_ble_eq_true rfl, Nat.le_of_ble_eq_true rfl⟩) ⟨fun a U g mk q => by obtain ⟨q0, q1, qP, qK, qD⟩ := q; exact ⟨q0, q1, qP, va_K.moved (u := U) (U := U.calling g mk a) (Vm.Alike.refl U.vm) qK, qD⟩, va_recv (q0 := 1) (ci := 12) hK hP rfl rfl, fun U hU hW => ⟨rfl, by rw [hU], by rw [hU]; exact hPc, va_K.moved hW.alike hK, hDc.weaken (fun _ _ _ _ => trivial)⟩⟩ rfl rfl hl.1 rfl (lv_room (Nat.le_of_ble_eq_true rfl)) d_Lw_law_713 ⟨Nat.le_of_ble_eq_true rfl, Nat.le_of_ble_eq_true rfl⟩) hS (fun q _ h => hFc q h) hFc (fun rv9 u t H1 locs ht hvm hw hB hz1 hk1 hS => ?_)
  try dsimp only at hw hB
  obtain ⟨hP1, hK1, hD1⟩ := hB
  rw [ht] at hP1
  obtain ⟨rfl, hw⟩ := hw
  obtain ⟨hP, hD⟩ := va_join (wr := [(ou, .inl ((cT 1), 1, .inr (.inl (vp_updL fo (0 : Int32).toNatClampNeg ((nI (22 + (k + 15) / 16 * 16)).toInt64)))))]) (w1 := []) hP hD [1] [0] rfl rfl (by decide) (by decide) hk1 hFc hP1 hD1
  have hw63 := hw
  clear hPc hDc hFc hz1 hk1 hP1 hK1 hD1
  generalize H1 = H at hP hS ⊢
  have hP : va_P (dC, dI) vcl [(ou, .inl ((cT 1), 1, .inr (.inl (vp_updL fo (0 : Int32).toNatClampNeg ((nI (22 + (k + 15) / 16 * 16)).toInt64)))))] H := hP
  have hD : va_D A [(ou, .inl ((cT 1), 1, .inr (.inl (vp_updL fo (0 : Int32).toNatClampNeg ((nI (22 + (k + 15) / 16 * 16)).toInt64)))))] := hD
  refine lv_iload hx hb d_Lw_law_716 (lv_at hl 1 rfl) ?_
  refine lv_icmp_eq (tgt := 723) hx hb d_Lw_law_718 (by decide) (fun hc64 => ?_) (fun hn9 => absurd (rfl) hn9)
  refine lv_iload hx hb d_Lw_law_723 (lv_at hl 1 rfl) ?_
  refine lv_if_ne (tgt := 740) hx hb d_Lw_law_725 (by decide) (fun hn9 => absurd hn9 (fun h => h rfl)) (fun hc65 => ?_)
  refine lv_aload_n hx hb d_Lw_law_728 rfl (lv_at hl 5 rfl) ?_
  refine lv_iconst (v := 0) hx hb d_Lw_law_729 (by decide) ?_
  refine va_lald hx hb hK hP 0 1 rfl rfl (i := 0) (vp_in_nI (n := 0) (N := 1) (by decide) (by decide)) d_Lw_law_730 ?_
  refine lv_topl (fun x67 e66 => ?_)
  obtain rfl : x67 = ((nI (22 + (k + 15) / 16 * 16)).toInt64) := by rw [e66]; exact updL_eq
  refine lv_iload hx hb d_Lw_law_731 (lv_at hl 0 rfl) ?_
  refine lv_i2l (v := (nI (22 + (k + 15) / 16 * 16)).toInt64) hx hb d_Lw_law_733 rfl ?_
  refine W.lcmp hx hb d_Lw_law_734 ?_
  refine lv_if_eq (tgt := 740) hx hb d_Lw_law_735 (by decide) (fun hc68 => ?_) (fun hn9 => absurd (cmp_e (rfl)) hn9)
  refine lv_goto (tgt := 1363) hx hb d_Lw_law_740 (by decide) ?_
  refine W.widen (k := 900) (n := 33000) (Nat.le_of_ble_eq_true rfl) (Nat.le_of_ble_eq_true rfl) ?_
  have hl9 : lv_has ls 8 [(0, .ref b), (4, .int 0)] := lv_sub hl [2, 6] rfl
  exact kk _ _ _ hS hl9
set_option maxHeartbeats 4000000 in
set_option maxRecDepth 100000 in
theorem lw_case9 {p : Program} {l : Launch} {e : Env} {s : State} {m : MethodId} {args : Array Value} {below : List Frame} {meth : Method} {c : Code} {Q : State → Prop} {A : Nat → Prop} {b : Nat} {xs : Nat → Int32} {H : Heap} {locs : List Loc} {ls : Array Slot} (dC : Nat → ClassId) (dI : Nat → Nat → Nat) (cT : Nat → ClassId) (ds : Nat) (dr : Nat) (sv : Nat) (rr : Nat) (se : Nat) (pw : Nat) (g0 : Nat) (ty : Nat) (an : Nat) (aw : Nat) (ts : Nat) (ss : Nat) (rq : Nat) (sh : Nat) (sr : Nat) (uh : Nat) (ur : Nat) (tx : Nat) (tr : Nat) (wo : Nat) (di : Nat) (ar : Nat) (a1 : Nat) (t1 : Nat) (s1 : Nat) (sa : Nat) (mo : Nat) (ou : Nat) (st us : Nat) (gs gp : Nat → Option Nat) (df sf mc mz mf mZ : Nat → Int32) (mS mQ fo : Nat → Int64) (mq : Nat → Nat) (hx : p.tables.exec = Jvm.exec) (hb : c.code = b_Lw_law) (hml : c.maxLocals = 8) (hown : s.vm.findClass "DoorServerLaw" = some m.cls) (hg : ∀ w ∈ BIG, w.before args s = true) (hX : va_X b 5 xs s s.heap) (hbl : b < s.heap.size) (hbA : ¬ A b) (hA : ∀ q : Nat, s.heap.size ≤ q → A q) (hK : va_K (dC, dI) vcl (tyL cT) s) (hfl : l.flags = pinnedFlags ++ [noTraceFlag]) (hXm : xm A s s.heap) (hXz : xz_T A s s.heap) (hst : st < 4) (hus : us < 32) (hgs : gs st = some sh) (hgp : gp us = some uh) (hst1 : ¬ xs 1 < 0 → ¬ 3 < xs 1 → xs 1 = nI st) (hus1 : ¬ xs 1 < 0 → ¬ 31 < xs 1 → xs 1 = nI us) (hdf : df 0 = 1 ∧ df 1 = 0 ∧ df 2 = 0 ∧ df 3 = 20 ∧ ∀ q9, q9 < 8 → df (4 + q9) = bn_at 0 q9 ∧ df (12 + q9) = bn_at 0 q9 ^^^ 90) (hmf : mf 0 = 1 ∧ mf 1 = 0 ∧ mf 2 = 0 ∧ mf 3 = 20 ∧ ∀ k9, k9 < 16 → mf (4 + k9) = mb_at 0 k9) (hmz : ∀ q9, q9 < 4 → mz q9 = 1) (hz : mZ 14 = 0 ∧ mZ 17 = 0 ∧ mZ 24 = 0 ∧ mZ 33 = 0 ∧ mZ 43 = 0 ∧ mZ 44 = 0) (kk : ∀ (H : Heap) (locs : List Loc) (ls : Array Slot), va_S A s.heap H locs → lv_has ls 8 [(0, .ref b), (4, .int 0)] → W p l e room_1 s m args below meth c H locs 900 33000 Q (F0 m 1363 ls [])) (hP : va_P (dC, dI) vcl [(ds, .inr (0, [.ref dr, .ref sv])), (dr, .inr (2, [.ref rr, .int (nI 20)])), (rr, .inl ((cT 0), 1000, .inl df)), (sv, .inr (5, [.ref se, .ref pw, .ref g0, .ref ty, .ref an, .ref aw, .ref ts, .ref ss, .ref rq, .int 0, .int 0, .int 0])), (se, .inl ((cT 2), 4, .inr (.inr (.inr (.inr gs))))), (sh, .inr (1, [.ref sr, .int (nI 1)])), (sr, .inl ((cT 0), 40, .inl sf)), (pw, .inl ((cT 2), 32, .inr (.inr (.inr (.inr gp))))), (uh, .inr (1, [.ref ur, .int 0])), (ur, .inl ((cT 0), 60, .inl (fun _ => 0))), (g0, .inr (3, [.ref tx, .ref wo, .ref di, .int 0, .int 0, .int 0, .int 0])), (tx, .inr (1, [.ref tr, .int (nI 0)])), (tr, .inl ((cT 0), 1192, .inl (fun _ => 0))), (wo, .inl ((cT 0), 16, .inl (fun _ => 0))), (di, .inl ((cT 0), 16, .inl (fun _ => 0))), (an, .inr (2, [.ref ar, .int 0])), (ar, .inl ((cT 0), 72, .inl (fun _ => 0))), (aw, .inr (6, [.ref a1, .int 0, .int 0])), (ts, .inr (9, [.ref t1, .long 0, .long 1, .int 0])), (ss, .inr (11, [.ref s1, .int 0])), (rq, .inr (4, [.ref dr, .ref sa])), (sa, .inl ((cT 0), 256, .inl (fun _ => 0))), (mo, .inr (12, mdF mq mZ mQ 0 0 (nI 20) (nI 0))), (mq 0, .inl ((cT 1), 64, .inr (.inl mS))), (mq 3, .inl ((cT 0), 160, .inl mc)), (mq 4, .inl ((cT 0), 4, .inl mz)), (mq 5, .inl ((cT 0), 1920, .inl (fun _ => 0))), (mq 6, .inl ((cT 0), 32, .inl (fun _ => 0))), (mq 7, .inl ((cT 0), 1000, .inl mf)), (mq 9, .inl ((cT 0), 1400, .inl (fun _ => 0))), (mq 11, .inl ((cT 0), 16, .inl (fun _ => 0))), (mq 12, .inl ((cT 0), 1200, .inl (fun _ => 0))), (ou, .inl ((cT 1), 1, .inr (.inl fo)))] H) (hD : va_D A [(ds, .inr (0, [.ref dr, .ref sv])), (dr, .inr (2, [.ref rr, .int (nI 20)])), (rr, .inl ((cT 0), 1000, .inl df)), (sv, .inr (5, [.ref se, .ref pw, .ref g0, .ref ty, .ref an, .ref aw, .ref ts, .ref ss, .ref rq, .int 0, .int 0, .int 0])), (se, .inl ((cT 2), 4, .inr (.inr (.inr (.inr gs))))), (sh, .inr (1, [.ref sr, .int (nI 1)])), (sr, .inl ((cT 0), 40, .inl sf)), (pw, .inl ((cT 2), 32, .inr (.inr (.inr (.inr gp))))), (uh, .inr (1, [.ref ur, .int 0])), (ur, .inl ((cT 0), 60, .inl (fun _ => 0))), (g0, .inr (3, [.ref tx, .ref wo, .ref di, .int 0, .int 0, .int 0, .int 0])), (tx, .inr (1, [.ref tr, .int (nI 0)])), (tr, .inl ((cT 0), 1192, .inl (fun _ => 0))), (wo, .inl ((cT 0), 16, .inl (fun _ => 0))), (di, .inl ((cT 0), 16, .inl (fun _ => 0))), (an, .inr (2, [.ref ar, .int 0])), (ar, .inl ((cT 0), 72, .inl (fun _ => 0))), (aw, .inr (6, [.ref a1, .int 0, .int 0])), (ts, .inr (9, [.ref t1, .long 0, .long 1, .int 0])), (ss, .inr (11, [.ref s1, .int 0])), (rq, .inr (4, [.ref dr, .ref sa])), (sa, .inl ((cT 0), 256, .inl (fun _ => 0))), (mo, .inr (12, mdF mq mZ mQ 0 0 (nI 20) (nI 0))), (mq 0, .inl ((cT 1), 64, .inr (.inl mS))), (mq 3, .inl ((cT 0), 160, .inl mc)), (mq 4, .inl ((cT 0), 4, .inl mz)), (mq 5, .inl ((cT 0), 1920, .inl (fun _ => 0))), (mq 6, .inl ((cT 0), 32, .inl (fun _ => 0))), (mq 7, .inl ((cT 0), 1000, .inl mf)), (mq 9, .inl ((cT 0), 1400, .inl (fun _ => 0))), (mq 11, .inl ((cT 0), 16, .inl (fun _ => 0))), (mq 12, .inl ((cT 0), 1200, .inl (fun _ => 0))), (ou, .inl ((cT 1), 1, .inr (.inl fo)))]) (hS : va_S A s.heap H locs) (hl : lv_has ls 8 [(0, .ref b), (1, .ref ds), (2, .ref mo), (3, .ref ou), (4, .int 0)]) : W p l e room_1 s m args below meth c H locs 800 32000 Q (F0 m 899 ls []) := by
  by_cases h1 : xs 1 < 0 ∨ 3 < xs 1
  · skip
    have hP := hP.sub (ws' := [(ds, .inr (0, [.ref dr, .ref sv])), (mo, .inr (12, mdF mq mZ mQ 0 0 (nI 20) (nI 0)))]) [0, 22] rfl
    have hD := hD.sub (ws' := [(ds, .inr (0, [.ref dr, .ref sv])), (mo, .inr (12, mdF mq mZ mQ 0 0 (nI 20) (nI 0)))]) [0, 22] (by decide) rfl
    refine lv_aload_n hx hb d_Lw_law_899 rfl (lv_at hl 1 rfl) ?_
    refine lv_aload_n hx hb d_Lw_law_900 rfl (lv_at hl 0 rfl) ?_
    refine lv_iload hx hb d_Lw_law_901 (lv_at hl 4 rfl) ?_
    refine lv_iconst (v := 1) hx hb d_Lw_law_903 (by decide) ?_
    refine lv_iadd hx hb d_Lw_law_904 ?_
    refine va_sld hx hb hX hbl hbA hS (i := (0 + 1)) (vin (by decide)) d_Lw_law_905 ?_
    refine lv_topi (fun x70 e69 => ?_)
    obtain rfl : x70 = xs 1 := by rw [e69]; exact congrArg xs (by decide)
    refine lv_aload_n hx hb d_Lw_law_906 rfl (lv_at hl 3 rfl) ?_
    have hPc := hP.sub (ws' := [(ds, .inr (0, [.ref dr, .ref sv]))]) [0] rfl
    have hDc := hD.sub (ws' := [(ds, .inr (0, [.ref dr, .ref sv]))]) [0] (by decide) rfl
    have hFc := va_free (wc := [(ds, .inr (0, [.ref dr, .ref sv]))]) hD hS hA [0] rfl
    refine va_calli (xw_runS (As := [.ref ds, .int (xs 1), .ref ou]) (rest := []) ⟨hx, hb, hml, hown, hg⟩ (t_prove l dC dI cT H.size ds (xs 1) dr sv ou (hfl) (h1)) rfl (gI (List.forall_mem_cons.mpr ⟨k_635, fun _ h => h⟩)) (hg _ k_633) (hg _ k_634) (hg _ k_0) rfl rfl (n := 3) (by decide +kernel) ⟨Nat.le_of_ble_eq_true rfl, Nat.le_of_ble_eq_true rfl⟩ ⟨fun a U g mk q => by obtain ⟨q0, q1, qP, qK, qD, qE⟩ := q; exact ⟨q0, q1, qP, va_K.moved (u := U) (U := U.calling g mk a) (Vm.Alike.refl U.vm) qK, qD, qE.at (State.WarmedH.refl _) (fun _ _ _ => rfl) (fun _ h => h)⟩, fun U hU hW => ⟨rfl, by rw [hU], by rw [hU]; exact hPc, va_K.moved hW.alike hK, hDc.weaken (fun _ _ _ _ => trivial), by rw [hU]; exact hXz.at hW hS.2.1 (fun _ h => h.elim)⟩⟩ rfl rfl hl.1 rfl (lv_room (Nat.le_of_ble_eq_true rfl)) d_Lw_law_907 ⟨Nat.le_of_ble_eq_true rfl, Nat.le_of_ble_eq_true rfl⟩) hS (fun q _ h => hFc q h) hFc (fun rv9 u t H1 locs ht hvm hw hB hz1 hk1 hS => ?_)
    try dsimp only at hw hB
    obtain ⟨hP1, hK1, hD1⟩ := hB
    rw [ht] at hP1
    obtain ⟨rfl, hw⟩ := hw
    obtain ⟨hP, hD⟩ := va_join (wr := [(mo, .inr (12, mdF mq mZ mQ 0 0 (nI 20) (nI 0)))]) (w1 := []) hP hD [0] [1] rfl rfl (by decide) (by decide) hk1 hFc hP1 hD1
    have hw71 := hw
    clear hPc hDc hFc hz1 hk1 hP1 hK1 hD1
    generalize H1 = H at hP hS ⊢
    have hP : va_P (dC, dI) vcl [(mo, .inr (12, mdF mq mZ mQ 0 0 (nI 20) (nI 0)))] H := hP
    have hD : va_D A [(mo, .inr (12, mdF mq mZ mQ 0 0 (nI 20) (nI 0)))] := hD
    refine lv_istore (lv' := [(5, .int 1), (0, .ref b), (1, .ref ds), (2, .ref mo), (3, .ref ou), (4, .int 0)]) hx hb d_Lw_law_910 hl (by decide) rfl (fun ls hl => ?_)
    refine lv_aload_n hx hb d_Lw_law_912 rfl (lv_at hl 3 rfl) ?_
    refine lv_aload_n hx hb d_Lw_law_913 rfl (lv_at hl 1 rfl) ?_
    refine lv_iload hx hb d_Lw_law_914 (lv_at hl 5 rfl) ?_
    refine lv_iconst (v := 1) hx hb d_Lw_law_916 (by decide) ?_
    refine lv_iadd hx hb d_Lw_law_917 ?_
    refine va_sld hx hb hX hbl hbA hS (i := (0 + 1)) (vin (by decide)) d_Lw_law_918 ?_
    refine lv_topi (fun x73 e72 => ?_)
    obtain rfl : x73 = xs 1 := by rw [e72]; exact congrArg xs (by decide)
    have hPc := hP.sub (ws' := [(mo, .inr (12, mdF mq mZ mQ 0 0 (nI 20) (nI 0)))]) [0] rfl
    have hDc := hD.sub (ws' := [(mo, .inr (12, mdF mq mZ mQ 0 0 (nI 20) (nI 0)))]) [0] (by decide) rfl
    have hFc := va_free (wc := [(mo, .inr (12, mdF mq mZ mQ 0 0 (nI 20) (nI 0)))]) hD hS hA [0] rfl
    refine va_calli (va_runV (C := "DoorServerModel") (As := [.int (xs 1)]) (rest := []) ⟨hx, hb, hml, hown, hg⟩ (b_prove l dC dI cT H.size mo mq mZ mQ 0 0 20 0 (xs 1) (h1)) (cwV 1 hg (gI (List.forall_mem_append.mpr ⟨List.forall_mem_cons.mpr ⟨k_1255, List.forall_mem_cons.mpr ⟨k_1256, List.forall_mem_cons.mpr ⟨k_1257, List.forall_mem_cons.mpr ⟨k_13, fun _ h => absurd h List.not_mem_nil⟩⟩⟩⟩, List.forall_mem_cons.mpr ⟨k_1258, fun _ h => h⟩⟩)) rfl rfl rfl (by decide +kernel) ⟨Nat.le_of_ble_eq_true rfl, Nat.le_of_ble_eq_true rfl⟩) ⟨fun a U g mk q => by obtain ⟨q0, q1, qP, qK, qD⟩ := q; exact ⟨q0, q1, qP, va_K.moved (u := U) (U := U.calling g mk a) (Vm.Alike.refl U.vm) qK, qD⟩, va_recv (q0 := 0) (ci := 12) hK hP rfl rfl, fun U hU hW => ⟨rfl, by rw [hU], by rw [hU]; exact hPc, va_K.moved hW.alike hK, hDc.weaken (fun _ _ _ _ => trivial)⟩⟩ rfl rfl hl.1 rfl (lv_room (Nat.le_of_ble_eq_true rfl)) d_Lw_law_919 ⟨Nat.le_of_ble_eq_true rfl, Nat.le_of_ble_eq_true rfl⟩) hS (fun q _ h => hFc q h) hFc (fun rv9 u t H1 locs ht hvm hw hB hz1 hk1 hS => ?_)
    try dsimp only at hw hB
    obtain ⟨hP1, hK1, hD1⟩ := hB
    rw [ht] at hP1
    generalize rv9 = r74 at hw ⊢
    obtain ⟨hP, hD⟩ := va_join (wr := []) (w1 := [(mo, .inr (12, mdF mq mZ mQ 1 0 (nI 20) (nI 0)))]) hP hD [0] [] rfl rfl (by decide) (by decide) hk1 hFc hP1 hD1
    have hw75 := hw
    clear hPc hDc hFc hz1 hk1 hP1 hK1 hD1
    generalize H1 = H at hP hS ⊢
    have hP : va_P (dC, dI) vcl [(mo, .inr (12, mdF mq mZ mQ 1 0 (nI 20) (nI 0)))] H := hP
    have hD : va_D A [(mo, .inr (12, mdF mq mZ mQ 1 0 (nI 20) (nI 0)))] := hD
    refine lv_istore (lv' := [(6, .int r74), (5, .int 1), (0, .ref b), (1, .ref ds), (2, .ref mo), (3, .ref ou), (4, .int 0)]) hx hb d_Lw_law_922 hl (by decide) rfl (fun ls hl => ?_)
    refine lv_aload_n hx hb d_Lw_law_924 rfl (lv_at hl 4 rfl) ?_
    have hPc := hP.sub (ws' := [(mo, .inr (12, mdF mq mZ mQ 1 0 (nI 20) (nI 0)))]) [0] rfl
    have hDc := hD.sub (ws' := [(mo, .inr (12, mdF mq mZ mQ 1 0 (nI 20) (nI 0)))]) [0] (by decide) rfl
    have hFc := va_free (wc := [(mo, .inr (12, mdF mq mZ mQ 1 0 (nI 20) (nI 0)))]) hD hS hA [0] rfl
    refine va_calli (va_runV (C := "DoorServerModel") (As := []) (rest := []) ⟨hx, hb, hml, hown, hg⟩ (m_thrown l dC dI cT H.size mo mq mZ mQ 1 0 20 0 ) (cwV 0 hg (gI (List.forall_mem_append.mpr ⟨List.forall_mem_cons.mpr ⟨k_1157, List.forall_mem_cons.mpr ⟨k_1158, List.forall_mem_cons.mpr ⟨k_1159, List.forall_mem_cons.mpr ⟨k_13, fun _ h => absurd h List.not_mem_nil⟩⟩⟩⟩, List.forall_mem_cons.mpr ⟨k_1160, fun _ h => h⟩⟩)) rfl rfl rfl (by decide +kernel) ⟨Nat.le_of_ble_eq_true rfl, Nat.le_of_ble_eq_true rfl⟩) ⟨fun a U g mk q => by obtain ⟨q0, q1, qP, qK, qD⟩ := q; exact ⟨q0, q1, qP, va_K.moved (u := U) (U := U.calling g mk a) (Vm.Alike.refl U.vm) qK, qD⟩, va_recv (q0 := 0) (ci := 12) hK hP rfl rfl, fun U hU hW => ⟨rfl, by rw [hU], by rw [hU]; exact hPc, va_K.moved hW.alike hK, hDc.weaken (fun _ _ _ _ => trivial)⟩⟩ rfl rfl hl.1 rfl (lv_room (Nat.le_of_ble_eq_true rfl)) d_Lw_law_925 ⟨Nat.le_of_ble_eq_true rfl, Nat.le_of_ble_eq_true rfl⟩) hS (fun q _ h => hFc q h) hFc (fun rv9 u t H1 locs ht hvm hw hB hz1 hk1 hS => ?_)
    try dsimp only at hw hB
    obtain ⟨hP1, hK1, hD1⟩ := hB
    rw [ht] at hP1
    obtain ⟨rfl, hw⟩ := hw
    obtain ⟨hP, hD⟩ := va_join (wr := []) (w1 := []) hP hD [0] [] rfl rfl (by decide) (by decide) hk1 hFc hP1 hD1
    have hw76 := hw
    clear hPc hDc hFc hz1 hk1 hP1 hK1 hD1
    generalize H1 = H at hP hS ⊢
    have hP : va_P (dC, dI) vcl [] H := hP
    have hD : va_D A [] := hD
    refine lv_iload hx hb d_Lw_law_928 (lv_at hl 1 rfl) ?_
    refine lv_icmp_eq (tgt := 935) hx hb d_Lw_law_930 (by decide) (fun hc77 => ?_) (fun hn9 => absurd (rfl) hn9)
    refine lv_iload hx hb d_Lw_law_935 (lv_at hl 1 rfl) ?_
    refine lv_if_ne (tgt := 952) hx hb d_Lw_law_937 (by decide) (fun hc78 => ?_) (fun hn9 => absurd hn9 (by decide))
    refine lv_goto (tgt := 1363) hx hb d_Lw_law_952 (by decide) ?_
    refine W.widen (k := 900) (n := 33000) (Nat.le_of_ble_eq_true rfl) (Nat.le_of_ble_eq_true rfl) ?_
    have hl9 : lv_has ls 8 [(0, .ref b), (4, .int 0)] := lv_sub hl [2, 6] rfl
    exact kk _ _ _ hS hl9
  have h1a : ¬ xs 1 < 0 := fun h9 => h1 (Or.inl h9)
  have h1b : ¬ 3 < xs 1 := fun h9 => h1 (Or.inr h9)
  have hs1 := hst1 h1a h1b
  have hP := hP.sub (ws' := [(ds, .inr (0, [.ref dr, .ref sv])), (dr, .inr (2, [.ref rr, .int (nI 20)])), (rr, .inl ((cT 0), 1000, .inl df)), (sv, .inr (5, [.ref se, .ref pw, .ref g0, .ref ty, .ref an, .ref aw, .ref ts, .ref ss, .ref rq, .int 0, .int 0, .int 0])), (se, .inl ((cT 2), 4, .inr (.inr (.inr (.inr gs))))), (sh, .inr (1, [.ref sr, .int (nI 1)])), (sr, .inl ((cT 0), 40, .inl sf)), (g0, .inr (3, [.ref tx, .ref wo, .ref di, .int 0, .int 0, .int 0, .int 0])), (tx, .inr (1, [.ref tr, .int (nI 0)])), (tr, .inl ((cT 0), 1192, .inl (fun _ => 0))), (wo, .inl ((cT 0), 16, .inl (fun _ => 0))), (di, .inl ((cT 0), 16, .inl (fun _ => 0))), (mo, .inr (12, mdF mq mZ mQ 0 0 (nI 20) (nI 0))), (mq 0, .inl ((cT 1), 64, .inr (.inl mS))), (mq 3, .inl ((cT 0), 160, .inl mc)), (mq 4, .inl ((cT 0), 4, .inl mz)), (mq 7, .inl ((cT 0), 1000, .inl mf)), (mq 9, .inl ((cT 0), 1400, .inl (fun _ => 0))), (mq 11, .inl ((cT 0), 16, .inl (fun _ => 0))), (mq 12, .inl ((cT 0), 1200, .inl (fun _ => 0))), (ou, .inl ((cT 1), 1, .inr (.inl fo)))]) [0, 1, 2, 3, 4, 5, 6, 10, 11, 12, 13, 14, 22, 23, 24, 25, 28, 29, 30, 31, 32] rfl
  have hD := hD.sub (ws' := [(ds, .inr (0, [.ref dr, .ref sv])), (dr, .inr (2, [.ref rr, .int (nI 20)])), (rr, .inl ((cT 0), 1000, .inl df)), (sv, .inr (5, [.ref se, .ref pw, .ref g0, .ref ty, .ref an, .ref aw, .ref ts, .ref ss, .ref rq, .int 0, .int 0, .int 0])), (se, .inl ((cT 2), 4, .inr (.inr (.inr (.inr gs))))), (sh, .inr (1, [.ref sr, .int (nI 1)])), (sr, .inl ((cT 0), 40, .inl sf)), (g0, .inr (3, [.ref tx, .ref wo, .ref di, .int 0, .int 0, .int 0, .int 0])), (tx, .inr (1, [.ref tr, .int (nI 0)])), (tr, .inl ((cT 0), 1192, .inl (fun _ => 0))), (wo, .inl ((cT 0), 16, .inl (fun _ => 0))), (di, .inl ((cT 0), 16, .inl (fun _ => 0))), (mo, .inr (12, mdF mq mZ mQ 0 0 (nI 20) (nI 0))), (mq 0, .inl ((cT 1), 64, .inr (.inl mS))), (mq 3, .inl ((cT 0), 160, .inl mc)), (mq 4, .inl ((cT 0), 4, .inl mz)), (mq 7, .inl ((cT 0), 1000, .inl mf)), (mq 9, .inl ((cT 0), 1400, .inl (fun _ => 0))), (mq 11, .inl ((cT 0), 16, .inl (fun _ => 0))), (mq 12, .inl ((cT 0), 1200, .inl (fun _ => 0))), (ou, .inl ((cT 1), 1, .inr (.inl fo)))]) [0, 1, 2, 3, 4, 5, 6, 10, 11, 12, 13, 14, 22, 23, 24, 25, 28, 29, 30, 31, 32] (by decide) rfl
  refine lv_aload_n hx hb d_Lw_law_899 rfl (lv_at hl 1 rfl) ?_
  refine lv_aload_n hx hb d_Lw_law_900 rfl (lv_at hl 0 rfl) ?_
  refine lv_iload hx hb d_Lw_law_901 (lv_at hl 4 rfl) ?_
  refine lv_iconst (v := 1) hx hb d_Lw_law_903 (by decide) ?_
  refine lv_iadd hx hb d_Lw_law_904 ?_
  refine va_sld hx hb hX hbl hbA hS (i := (0 + 1)) (vin (by decide)) d_Lw_law_905 ?_
  refine lv_topi (fun x80 e79 => ?_)
  obtain rfl : x80 = nI st := by rw [e79]; exact (congrArg xs (by decide)).trans (hs1)
  refine lv_aload_n hx hb d_Lw_law_906 rfl (lv_at hl 3 rfl) ?_
  have hPc := hP.sub (ws' := [(ds, .inr (0, [.ref dr, .ref sv])), (dr, .inr (2, [.ref rr, .int (nI 20)])), (rr, .inl ((cT 0), 1000, .inl df)), (sv, .inr (5, [.ref se, .ref pw, .ref g0, .ref ty, .ref an, .ref aw, .ref ts, .ref ss, .ref rq, .int 0, .int 0, .int 0])), (se, .inl ((cT 2), 4, .inr (.inr (.inr (.inr gs))))), (sh, .inr (1, [.ref sr, .int (nI 1)])), (sr, .inl ((cT 0), 40, .inl sf)), (g0, .inr (3, [.ref tx, .ref wo, .ref di, .int 0, .int 0, .int 0, .int 0])), (tx, .inr (1, [.ref tr, .int (nI 0)])), (tr, .inl ((cT 0), 1192, .inl (fun _ => 0))), (wo, .inl ((cT 0), 16, .inl (fun _ => 0))), (di, .inl ((cT 0), 16, .inl (fun _ => 0))), (ou, .inl ((cT 1), 1, .inr (.inl fo)))]) [0, 1, 2, 3, 4, 5, 6, 7, 8, 9, 10, 11, 20] rfl
  have hDc := hD.sub (ws' := [(ds, .inr (0, [.ref dr, .ref sv])), (dr, .inr (2, [.ref rr, .int (nI 20)])), (rr, .inl ((cT 0), 1000, .inl df)), (sv, .inr (5, [.ref se, .ref pw, .ref g0, .ref ty, .ref an, .ref aw, .ref ts, .ref ss, .ref rq, .int 0, .int 0, .int 0])), (se, .inl ((cT 2), 4, .inr (.inr (.inr (.inr gs))))), (sh, .inr (1, [.ref sr, .int (nI 1)])), (sr, .inl ((cT 0), 40, .inl sf)), (g0, .inr (3, [.ref tx, .ref wo, .ref di, .int 0, .int 0, .int 0, .int 0])), (tx, .inr (1, [.ref tr, .int (nI 0)])), (tr, .inl ((cT 0), 1192, .inl (fun _ => 0))), (wo, .inl ((cT 0), 16, .inl (fun _ => 0))), (di, .inl ((cT 0), 16, .inl (fun _ => 0))), (ou, .inl ((cT 1), 1, .inr (.inl fo)))]) [0, 1, 2, 3, 4, 5, 6, 7, 8, 9, 10, 11, 20] (by decide) rfl
  have hFc := va_free (wc := [(ds, .inr (0, [.ref dr, .ref sv])), (dr, .inr (2, [.ref rr, .int (nI 20)])), (rr, .inl ((cT 0), 1000, .inl df)), (sv, .inr (5, [.ref se, .ref pw, .ref g0, .ref ty, .ref an, .ref aw, .ref ts, .ref ss, .ref rq, .int 0, .int 0, .int 0])), (se, .inl ((cT 2), 4, .inr (.inr (.inr (.inr gs))))), (sh, .inr (1, [.ref sr, .int (nI 1)])), (sr, .inl ((cT 0), 40, .inl sf)), (g0, .inr (3, [.ref tx, .ref wo, .ref di, .int 0, .int 0, .int 0, .int 0])), (tx, .inr (1, [.ref tr, .int (nI 0)])), (tr, .inl ((cT 0), 1192, .inl (fun _ => 0))), (wo, .inl ((cT 0), 16, .inl (fun _ => 0))), (di, .inl ((cT 0), 16, .inl (fun _ => 0))), (ou, .inl ((cT 1), 1, .inr (.inl fo)))]) hD hS hA [0, 1, 2, 3, 4, 5, 6, 7, 8, 9, 10, 11, 20] rfl
  refine va_calli (xw_runS (As := [.ref ds, .int (nI st), .ref ou]) (rest := []) ⟨hx, hb, hml, hown, hg⟩ (l_prove l dC dI cT H.size ds dr sv rr se pw ty an aw ts ss rq 0 0 0 sh sr 40 1 sf gs st g0 tx tr wo di 0 0 0 0 0 (fun _ => 0) (fun _ => 0) (fun _ => 0) df ou fo (hst) (hgs) (by decide) (by decide) (by decide)) rfl (gI (List.forall_mem_cons.mpr ⟨k_635, fun _ h => h⟩)) (hg _ k_633) (hg _ k_634) (hg _ k_0) rfl rfl (n := 3) (by decide +kernel) ⟨Nat.le_of_ble_eq_true rfl, Nat.le_of_ble_eq_true rfl⟩ ⟨fun a U g mk q => by obtain ⟨q0, q1, qP, qK, qD, qE⟩ := q; exact ⟨q0, q1, qP, va_K.moved (u := U) (U := U.calling g mk a) (Vm.Alike.refl U.vm) qK, qD, qE.at (State.WarmedH.refl _) (fun _ _ _ => rfl) (fun _ h => h)⟩, fun U hU hW => ⟨rfl, by rw [hU], by rw [hU]; exact hPc, va_K.moved hW.alike hK, hDc.weaken (fun _ _ _ _ => trivial), by rw [hU]; exact hXm.at hW hS.2.1 hFc⟩⟩ rfl rfl hl.1 rfl (lv_room (Nat.le_of_ble_eq_true rfl)) d_Lw_law_907 ⟨Nat.le_of_ble_eq_true rfl, Nat.le_of_ble_eq_true rfl⟩) hS (fun q _ h => hFc q h) hFc (fun rv9 u t H1 locs ht hvm hw hB hz1 hk1 hS => ?_)
  try dsimp only at hw hB
  obtain ⟨hP1, hK1, hD1⟩ := hB
  rw [ht] at hP1
  obtain ⟨rfl, hw⟩ := hw
  obtain ⟨hP, hD⟩ := va_join (wr := [(mo, .inr (12, mdF mq mZ mQ 0 0 (nI 20) (nI 0))), (mq 0, .inl ((cT 1), 64, .inr (.inl mS))), (mq 3, .inl ((cT 0), 160, .inl mc)), (mq 4, .inl ((cT 0), 4, .inl mz)), (mq 7, .inl ((cT 0), 1000, .inl mf)), (mq 9, .inl ((cT 0), 1400, .inl (fun _ => 0))), (mq 11, .inl ((cT 0), 16, .inl (fun _ => 0))), (mq 12, .inl ((cT 0), 1200, .inl (fun _ => 0)))]) (w1 := [(ou, .inl ((cT 1), 1, .inr (.inl (vp_updL fo (0 : Int32).toNatClampNeg ((38 : Int32).toInt64)))))]) hP hD [0, 1, 2, 3, 4, 5, 6, 7, 8, 9, 10, 11, 20] [12, 13, 14, 15, 16, 17, 18, 19] rfl rfl (by decide) (by decide) hk1 hFc hP1 hD1
  have hw81 := hw
  clear hPc hDc hFc hz1 hk1 hP1 hK1 hD1
  generalize H1 = H at hP hS ⊢
  have hP : va_P (dC, dI) vcl [(mo, .inr (12, mdF mq mZ mQ 0 0 (nI 20) (nI 0))), (mq 0, .inl ((cT 1), 64, .inr (.inl mS))), (mq 3, .inl ((cT 0), 160, .inl mc)), (mq 4, .inl ((cT 0), 4, .inl mz)), (mq 7, .inl ((cT 0), 1000, .inl mf)), (mq 9, .inl ((cT 0), 1400, .inl (fun _ => 0))), (mq 11, .inl ((cT 0), 16, .inl (fun _ => 0))), (mq 12, .inl ((cT 0), 1200, .inl (fun _ => 0))), (ou, .inl ((cT 1), 1, .inr (.inl (vp_updL fo (0 : Int32).toNatClampNeg ((38 : Int32).toInt64)))))] H := hP
  have hD : va_D A [(mo, .inr (12, mdF mq mZ mQ 0 0 (nI 20) (nI 0))), (mq 0, .inl ((cT 1), 64, .inr (.inl mS))), (mq 3, .inl ((cT 0), 160, .inl mc)), (mq 4, .inl ((cT 0), 4, .inl mz)), (mq 7, .inl ((cT 0), 1000, .inl mf)), (mq 9, .inl ((cT 0), 1400, .inl (fun _ => 0))), (mq 11, .inl ((cT 0), 16, .inl (fun _ => 0))), (mq 12, .inl ((cT 0), 1200, .inl (fun _ => 0))), (ou, .inl ((cT 1), 1, .inr (.inl (vp_updL fo (0 : Int32).toNatClampNeg ((38 : Int32).toInt64)))))] := hD
  refine lv_istore (lv' := [(5, .int 0), (0, .ref b), (1, .ref ds), (2, .ref mo), (3, .ref ou), (4, .int 0)]) hx hb d_Lw_law_910 hl (by decide) rfl (fun ls hl => ?_)
  refine lv_aload_n hx hb d_Lw_law_912 rfl (lv_at hl 3 rfl) ?_
  refine lv_aload_n hx hb d_Lw_law_913 rfl (lv_at hl 1 rfl) ?_
  refine lv_iload hx hb d_Lw_law_914 (lv_at hl 5 rfl) ?_
  refine lv_iconst (v := 1) hx hb d_Lw_law_916 (by decide) ?_
  refine lv_iadd hx hb d_Lw_law_917 ?_
  refine va_sld hx hb hX hbl hbA hS (i := (0 + 1)) (vin (by decide)) d_Lw_law_918 ?_
  refine lv_topi (fun x83 e82 => ?_)
  obtain rfl : x83 = nI st := by rw [e82]; exact (congrArg xs (by decide)).trans (hs1)
  have hPc := hP.sub (ws' := [(mo, .inr (12, mdF mq mZ mQ 0 0 (nI 20) (nI 0))), (mq 9, .inl ((cT 0), 1400, .inl (fun _ => 0))), (mq 12, .inl ((cT 0), 1200, .inl (fun _ => 0))), (mq 3, .inl ((cT 0), 160, .inl mc)), (mq 4, .inl ((cT 0), 4, .inl mz)), (mq 0, .inl ((cT 1), 64, .inr (.inl mS))), (mq 11, .inl ((cT 0), 16, .inl (fun _ => 0))), (mq 7, .inl ((cT 0), 1000, .inl mf))]) [0, 5, 7, 2, 3, 1, 6, 4] rfl
  have hDc := hD.sub (ws' := [(mo, .inr (12, mdF mq mZ mQ 0 0 (nI 20) (nI 0))), (mq 9, .inl ((cT 0), 1400, .inl (fun _ => 0))), (mq 12, .inl ((cT 0), 1200, .inl (fun _ => 0))), (mq 3, .inl ((cT 0), 160, .inl mc)), (mq 4, .inl ((cT 0), 4, .inl mz)), (mq 0, .inl ((cT 1), 64, .inr (.inl mS))), (mq 11, .inl ((cT 0), 16, .inl (fun _ => 0))), (mq 7, .inl ((cT 0), 1000, .inl mf))]) [0, 5, 7, 2, 3, 1, 6, 4] (by decide) rfl
  have hFc := va_free (wc := [(mo, .inr (12, mdF mq mZ mQ 0 0 (nI 20) (nI 0))), (mq 9, .inl ((cT 0), 1400, .inl (fun _ => 0))), (mq 12, .inl ((cT 0), 1200, .inl (fun _ => 0))), (mq 3, .inl ((cT 0), 160, .inl mc)), (mq 4, .inl ((cT 0), 4, .inl mz)), (mq 0, .inl ((cT 1), 64, .inr (.inl mS))), (mq 11, .inl ((cT 0), 16, .inl (fun _ => 0))), (mq 7, .inl ((cT 0), 1000, .inl mf))]) hD hS hA [0, 5, 7, 2, 3, 1, 6, 4] rfl
  refine va_calli (va_runV (C := "DoorServerModel") (As := [.int (nI st)]) (rest := []) ⟨hx, hb, hml, hown, hg⟩ (o_prove l dC dI cT H.size mo mq mZ mQ 0 0 20 0 (fun _ => 0) mS (fun _ => 0) mc mz st 1 (fun _ => 0) mf (hst) (hmz st hst) (by decide)) (cwV 1 hg (gI (List.forall_mem_append.mpr ⟨List.forall_mem_cons.mpr ⟨k_1255, List.forall_mem_cons.mpr ⟨k_1256, List.forall_mem_cons.mpr ⟨k_1257, List.forall_mem_cons.mpr ⟨k_13, fun _ h => absurd h List.not_mem_nil⟩⟩⟩⟩, List.forall_mem_cons.mpr ⟨k_1258, fun _ h => h⟩⟩)) rfl rfl rfl (by decide +kernel) ⟨Nat.le_of_ble_eq_true rfl, Nat.le_of_ble_eq_true rfl⟩) ⟨fun a U g mk q => by obtain ⟨q0, q1, qP, qK, qD⟩ := q; exact ⟨q0, q1, qP, va_K.moved (u := U) (U := U.calling g mk a) (Vm.Alike.refl U.vm) qK, qD⟩, va_recv (q0 := 0) (ci := 12) hK hP rfl rfl, fun U hU hW => ⟨rfl, by rw [hU], by rw [hU]; exact hPc, va_K.moved hW.alike hK, hDc.weaken (fun _ _ _ _ => trivial)⟩⟩ rfl rfl hl.1 rfl (lv_room (Nat.le_of_ble_eq_true rfl)) d_Lw_law_919 ⟨Nat.le_of_ble_eq_true rfl, Nat.le_of_ble_eq_true rfl⟩) hS (fun q _ h => hFc q h) hFc (fun rv9 u t H1 locs ht hvm hw hB hz1 hk1 hS => ?_)
  try dsimp only at hw hB
  obtain ⟨hP1, hK1, hD1⟩ := hB
  rw [ht] at hP1
  obtain ⟨rfl, hw⟩ := hw
  obtain ⟨hP, hD⟩ := va_join (wr := [(ou, .inl ((cT 1), 1, .inr (.inl (vp_updL fo (0 : Int32).toNatClampNeg ((38 : Int32).toInt64)))))]) (w1 := [(mo, .inr (12, mdF mq mZ mQ 0 0 (nI 38) (nI 0)))]) hP hD [0, 5, 7, 2, 3, 1, 6, 4] [8] rfl rfl (by decide) (by decide) hk1 hFc hP1 hD1
  have hw84 := hw
  clear hPc hDc hFc hz1 hk1 hP1 hK1 hD1
  generalize H1 = H at hP hS ⊢
  have hP : va_P (dC, dI) vcl [(ou, .inl ((cT 1), 1, .inr (.inl (vp_updL fo (0 : Int32).toNatClampNeg ((38 : Int32).toInt64))))), (mo, .inr (12, mdF mq mZ mQ 0 0 (nI 38) (nI 0)))] H := hP
  have hD : va_D A [(ou, .inl ((cT 1), 1, .inr (.inl (vp_updL fo (0 : Int32).toNatClampNeg ((38 : Int32).toInt64))))), (mo, .inr (12, mdF mq mZ mQ 0 0 (nI 38) (nI 0)))] := hD
  refine lv_istore (lv' := [(6, .int 38), (5, .int 0), (0, .ref b), (1, .ref ds), (2, .ref mo), (3, .ref ou), (4, .int 0)]) hx hb d_Lw_law_922 hl (by decide) rfl (fun ls hl => ?_)
  refine lv_aload_n hx hb d_Lw_law_924 rfl (lv_at hl 4 rfl) ?_
  have hPc := hP.sub (ws' := [(mo, .inr (12, mdF mq mZ mQ 0 0 (nI 38) (nI 0)))]) [1] rfl
  have hDc := hD.sub (ws' := [(mo, .inr (12, mdF mq mZ mQ 0 0 (nI 38) (nI 0)))]) [1] (by decide) rfl
  have hFc := va_free (wc := [(mo, .inr (12, mdF mq mZ mQ 0 0 (nI 38) (nI 0)))]) hD hS hA [1] rfl
  refine va_calli (va_runV (C := "DoorServerModel") (As := []) (rest := []) ⟨hx, hb, hml, hown, hg⟩ (m_thrown l dC dI cT H.size mo mq mZ mQ 0 0 38 0 ) (cwV 0 hg (gI (List.forall_mem_append.mpr ⟨List.forall_mem_cons.mpr ⟨k_1157, List.forall_mem_cons.mpr ⟨k_1158, List.forall_mem_cons.mpr ⟨k_1159, List.forall_mem_cons.mpr ⟨k_13, fun _ h => absurd h List.not_mem_nil⟩⟩⟩⟩, List.forall_mem_cons.mpr ⟨k_1160, fun _ h => h⟩⟩)) rfl rfl rfl (by decide +kernel) ⟨Nat.le_of_ble_eq_true rfl, Nat.le_of_ble_eq_true rfl⟩) ⟨fun a U g mk q => by obtain ⟨q0, q1, qP, qK, qD⟩ := q; exact ⟨q0, q1, qP, va_K.moved (u := U) (U := U.calling g mk a) (Vm.Alike.refl U.vm) qK, qD⟩, va_recv (q0 := 1) (ci := 12) hK hP rfl rfl, fun U hU hW => ⟨rfl, by rw [hU], by rw [hU]; exact hPc, va_K.moved hW.alike hK, hDc.weaken (fun _ _ _ _ => trivial)⟩⟩ rfl rfl hl.1 rfl (lv_room (Nat.le_of_ble_eq_true rfl)) d_Lw_law_925 ⟨Nat.le_of_ble_eq_true rfl, Nat.le_of_ble_eq_true rfl⟩) hS (fun q _ h => hFc q h) hFc (fun rv9 u t H1 locs ht hvm hw hB hz1 hk1 hS => ?_)
  try dsimp only at hw hB
  obtain ⟨hP1, hK1, hD1⟩ := hB
  rw [ht] at hP1
  obtain ⟨rfl, hw⟩ := hw
  obtain ⟨hP, hD⟩ := va_join (wr := [(ou, .inl ((cT 1), 1, .inr (.inl (vp_updL fo (0 : Int32).toNatClampNeg ((38 : Int32).toInt64)))))]) (w1 := []) hP hD [1] [0] rfl rfl (by decide) (by decide) hk1 hFc hP1 hD1
  have hw85 := hw
  clear hPc hDc hFc hz1 hk1 hP1 hK1 hD1
  generalize H1 = H at hP hS ⊢
  have hP : va_P (dC, dI) vcl [(ou, .inl ((cT 1), 1, .inr (.inl (vp_updL fo (0 : Int32).toNatClampNeg ((38 : Int32).toInt64)))))] H := hP
  have hD : va_D A [(ou, .inl ((cT 1), 1, .inr (.inl (vp_updL fo (0 : Int32).toNatClampNeg ((38 : Int32).toInt64)))))] := hD
  refine lv_iload hx hb d_Lw_law_928 (lv_at hl 1 rfl) ?_
  refine lv_icmp_eq (tgt := 935) hx hb d_Lw_law_930 (by decide) (fun hc86 => ?_) (fun hn9 => absurd (rfl) hn9)
  refine lv_iload hx hb d_Lw_law_935 (lv_at hl 1 rfl) ?_
  refine lv_if_ne (tgt := 952) hx hb d_Lw_law_937 (by decide) (fun hn9 => absurd hn9 (fun h => h rfl)) (fun hc87 => ?_)
  refine lv_aload_n hx hb d_Lw_law_940 rfl (lv_at hl 5 rfl) ?_
  refine lv_iconst (v := 0) hx hb d_Lw_law_941 (by decide) ?_
  refine va_lald hx hb hK hP 0 1 rfl rfl (i := 0) (vp_in_nI (n := 0) (N := 1) (by decide) (by decide)) d_Lw_law_942 ?_
  refine lv_topl (fun x89 e88 => ?_)
  obtain rfl : x89 = ((38 : Int32).toInt64) := by rw [e88]; exact updL_eq
  refine lv_iload hx hb d_Lw_law_943 (lv_at hl 0 rfl) ?_
  refine lv_i2l (v := (38 : Int32).toInt64) hx hb d_Lw_law_945 rfl ?_
  refine W.lcmp hx hb d_Lw_law_946 ?_
  refine lv_if_eq (tgt := 952) hx hb d_Lw_law_947 (by decide) (fun hc90 => ?_) (fun hn9 => absurd (cmp_e (rfl)) hn9)
  refine lv_goto (tgt := 1363) hx hb d_Lw_law_952 (by decide) ?_
  refine W.widen (k := 900) (n := 33000) (Nat.le_of_ble_eq_true rfl) (Nat.le_of_ble_eq_true rfl) ?_
  have hl9 : lv_has ls 8 [(0, .ref b), (4, .int 0)] := lv_sub hl [2, 6] rfl
  exact kk _ _ _ hS hl9
set_option maxHeartbeats 4000000 in
set_option maxRecDepth 100000 in
theorem lw_case10 {p : Program} {l : Launch} {e : Env} {s : State} {m : MethodId} {args : Array Value} {below : List Frame} {meth : Method} {c : Code} {Q : State → Prop} {A : Nat → Prop} {b : Nat} {xs : Nat → Int32} {H : Heap} {locs : List Loc} {ls : Array Slot} (dC : Nat → ClassId) (dI : Nat → Nat → Nat) (cT : Nat → ClassId) (ds : Nat) (dr : Nat) (sv : Nat) (rr : Nat) (se : Nat) (pw : Nat) (g0 : Nat) (ty : Nat) (an : Nat) (aw : Nat) (ts : Nat) (ss : Nat) (rq : Nat) (sh : Nat) (sr : Nat) (uh : Nat) (ur : Nat) (tx : Nat) (tr : Nat) (wo : Nat) (di : Nat) (ar : Nat) (a1 : Nat) (t1 : Nat) (s1 : Nat) (sa : Nat) (mo : Nat) (ou : Nat) (st us : Nat) (gs gp : Nat → Option Nat) (df sf mc mz mf mZ : Nat → Int32) (mS mQ fo : Nat → Int64) (mq : Nat → Nat) (hx : p.tables.exec = Jvm.exec) (hb : c.code = b_Lw_law) (hml : c.maxLocals = 8) (hown : s.vm.findClass "DoorServerLaw" = some m.cls) (hg : ∀ w ∈ BIG, w.before args s = true) (hX : va_X b 5 xs s s.heap) (hbl : b < s.heap.size) (hbA : ¬ A b) (hA : ∀ q : Nat, s.heap.size ≤ q → A q) (hK : va_K (dC, dI) vcl (tyL cT) s) (hfl : l.flags = pinnedFlags ++ [noTraceFlag]) (hXm : xm A s s.heap) (hXz : xz_T A s s.heap) (hst : st < 4) (hus : us < 32) (hgs : gs st = some sh) (hgp : gp us = some uh) (hst1 : ¬ xs 1 < 0 → ¬ 3 < xs 1 → xs 1 = nI st) (hus1 : ¬ xs 1 < 0 → ¬ 31 < xs 1 → xs 1 = nI us) (hdf : df 0 = 1 ∧ df 1 = 0 ∧ df 2 = 0 ∧ df 3 = 20 ∧ ∀ q9, q9 < 8 → df (4 + q9) = bn_at 0 q9 ∧ df (12 + q9) = bn_at 0 q9 ^^^ 90) (hmf : mf 0 = 1 ∧ mf 1 = 0 ∧ mf 2 = 0 ∧ mf 3 = 20 ∧ ∀ k9, k9 < 16 → mf (4 + k9) = mb_at 0 k9) (hmz : ∀ q9, q9 < 4 → mz q9 = 1) (hz : mZ 14 = 0 ∧ mZ 17 = 0 ∧ mZ 24 = 0 ∧ mZ 33 = 0 ∧ mZ 43 = 0 ∧ mZ 44 = 0) (kk : ∀ (H : Heap) (locs : List Loc) (ls : Array Slot), va_S A s.heap H locs → lv_has ls 8 [(0, .ref b), (4, .int 0)] → W p l e room_1 s m args below meth c H locs 900 33000 Q (F0 m 1363 ls [])) (hP : va_P (dC, dI) vcl [(ds, .inr (0, [.ref dr, .ref sv])), (dr, .inr (2, [.ref rr, .int (nI 20)])), (rr, .inl ((cT 0), 1000, .inl df)), (sv, .inr (5, [.ref se, .ref pw, .ref g0, .ref ty, .ref an, .ref aw, .ref ts, .ref ss, .ref rq, .int 0, .int 0, .int 0])), (se, .inl ((cT 2), 4, .inr (.inr (.inr (.inr gs))))), (sh, .inr (1, [.ref sr, .int (nI 1)])), (sr, .inl ((cT 0), 40, .inl sf)), (pw, .inl ((cT 2), 32, .inr (.inr (.inr (.inr gp))))), (uh, .inr (1, [.ref ur, .int 0])), (ur, .inl ((cT 0), 60, .inl (fun _ => 0))), (g0, .inr (3, [.ref tx, .ref wo, .ref di, .int 0, .int 0, .int 0, .int 0])), (tx, .inr (1, [.ref tr, .int (nI 0)])), (tr, .inl ((cT 0), 1192, .inl (fun _ => 0))), (wo, .inl ((cT 0), 16, .inl (fun _ => 0))), (di, .inl ((cT 0), 16, .inl (fun _ => 0))), (an, .inr (2, [.ref ar, .int 0])), (ar, .inl ((cT 0), 72, .inl (fun _ => 0))), (aw, .inr (6, [.ref a1, .int 0, .int 0])), (ts, .inr (9, [.ref t1, .long 0, .long 1, .int 0])), (ss, .inr (11, [.ref s1, .int 0])), (rq, .inr (4, [.ref dr, .ref sa])), (sa, .inl ((cT 0), 256, .inl (fun _ => 0))), (mo, .inr (12, mdF mq mZ mQ 0 0 (nI 20) (nI 0))), (mq 0, .inl ((cT 1), 64, .inr (.inl mS))), (mq 3, .inl ((cT 0), 160, .inl mc)), (mq 4, .inl ((cT 0), 4, .inl mz)), (mq 5, .inl ((cT 0), 1920, .inl (fun _ => 0))), (mq 6, .inl ((cT 0), 32, .inl (fun _ => 0))), (mq 7, .inl ((cT 0), 1000, .inl mf)), (mq 9, .inl ((cT 0), 1400, .inl (fun _ => 0))), (mq 11, .inl ((cT 0), 16, .inl (fun _ => 0))), (mq 12, .inl ((cT 0), 1200, .inl (fun _ => 0))), (ou, .inl ((cT 1), 1, .inr (.inl fo)))] H) (hD : va_D A [(ds, .inr (0, [.ref dr, .ref sv])), (dr, .inr (2, [.ref rr, .int (nI 20)])), (rr, .inl ((cT 0), 1000, .inl df)), (sv, .inr (5, [.ref se, .ref pw, .ref g0, .ref ty, .ref an, .ref aw, .ref ts, .ref ss, .ref rq, .int 0, .int 0, .int 0])), (se, .inl ((cT 2), 4, .inr (.inr (.inr (.inr gs))))), (sh, .inr (1, [.ref sr, .int (nI 1)])), (sr, .inl ((cT 0), 40, .inl sf)), (pw, .inl ((cT 2), 32, .inr (.inr (.inr (.inr gp))))), (uh, .inr (1, [.ref ur, .int 0])), (ur, .inl ((cT 0), 60, .inl (fun _ => 0))), (g0, .inr (3, [.ref tx, .ref wo, .ref di, .int 0, .int 0, .int 0, .int 0])), (tx, .inr (1, [.ref tr, .int (nI 0)])), (tr, .inl ((cT 0), 1192, .inl (fun _ => 0))), (wo, .inl ((cT 0), 16, .inl (fun _ => 0))), (di, .inl ((cT 0), 16, .inl (fun _ => 0))), (an, .inr (2, [.ref ar, .int 0])), (ar, .inl ((cT 0), 72, .inl (fun _ => 0))), (aw, .inr (6, [.ref a1, .int 0, .int 0])), (ts, .inr (9, [.ref t1, .long 0, .long 1, .int 0])), (ss, .inr (11, [.ref s1, .int 0])), (rq, .inr (4, [.ref dr, .ref sa])), (sa, .inl ((cT 0), 256, .inl (fun _ => 0))), (mo, .inr (12, mdF mq mZ mQ 0 0 (nI 20) (nI 0))), (mq 0, .inl ((cT 1), 64, .inr (.inl mS))), (mq 3, .inl ((cT 0), 160, .inl mc)), (mq 4, .inl ((cT 0), 4, .inl mz)), (mq 5, .inl ((cT 0), 1920, .inl (fun _ => 0))), (mq 6, .inl ((cT 0), 32, .inl (fun _ => 0))), (mq 7, .inl ((cT 0), 1000, .inl mf)), (mq 9, .inl ((cT 0), 1400, .inl (fun _ => 0))), (mq 11, .inl ((cT 0), 16, .inl (fun _ => 0))), (mq 12, .inl ((cT 0), 1200, .inl (fun _ => 0))), (ou, .inl ((cT 1), 1, .inr (.inl fo)))]) (hS : va_S A s.heap H locs) (hl : lv_has ls 8 [(0, .ref b), (1, .ref ds), (2, .ref mo), (3, .ref ou), (4, .int 0)]) : W p l e room_1 s m args below meth c H locs 800 32000 Q (F0 m 955 ls []) := by
  by_cases h1 : xs 1 < 0 ∨ 3 < xs 1
  · skip
    have hP := hP.sub (ws' := [(ds, .inr (0, [.ref dr, .ref sv])), (mo, .inr (12, mdF mq mZ mQ 0 0 (nI 20) (nI 0)))]) [0, 22] rfl
    have hD := hD.sub (ws' := [(ds, .inr (0, [.ref dr, .ref sv])), (mo, .inr (12, mdF mq mZ mQ 0 0 (nI 20) (nI 0)))]) [0, 22] (by decide) rfl
    refine lv_aload_n hx hb d_Lw_law_955 rfl (lv_at hl 1 rfl) ?_
    refine lv_aload_n hx hb d_Lw_law_956 rfl (lv_at hl 0 rfl) ?_
    refine lv_iload hx hb d_Lw_law_957 (lv_at hl 4 rfl) ?_
    refine lv_iconst (v := 1) hx hb d_Lw_law_959 (by decide) ?_
    refine lv_iadd hx hb d_Lw_law_960 ?_
    refine va_sld hx hb hX hbl hbA hS (i := (0 + 1)) (vin (by decide)) d_Lw_law_961 ?_
    refine lv_topi (fun x92 e91 => ?_)
    obtain rfl : x92 = xs 1 := by rw [e91]; exact congrArg xs (by decide)
    have hPc := hP.sub (ws' := [(ds, .inr (0, [.ref dr, .ref sv]))]) [0] rfl
    have hDc := hD.sub (ws' := [(ds, .inr (0, [.ref dr, .ref sv]))]) [0] (by decide) rfl
    have hFc := va_free (wc := [(ds, .inr (0, [.ref dr, .ref sv]))]) hD hS hA [0] rfl
    refine va_calli (xw_runS (As := [.ref ds, .int (xs 1)]) (rest := []) ⟨hx, hb, hml, hown, hg⟩ (t_seal l dC dI cT H.size ds (xs 1) dr sv (hfl) (h1)) rfl (gI (List.forall_mem_cons.mpr ⟨k_667, fun _ h => h⟩)) (hg _ k_665) (hg _ k_666) (hg _ k_0) rfl rfl (n := 2) (by decide +kernel) ⟨Nat.le_of_ble_eq_true rfl, Nat.le_of_ble_eq_true rfl⟩ ⟨fun a U g mk q => by obtain ⟨q0, q1, qP, qK, qD, qE⟩ := q; exact ⟨q0, q1, qP, va_K.moved (u := U) (U := U.calling g mk a) (Vm.Alike.refl U.vm) qK, qD, qE.at (State.WarmedH.refl _) (fun _ _ _ => rfl) (fun _ h => h)⟩, fun U hU hW => ⟨rfl, by rw [hU], by rw [hU]; exact hPc, va_K.moved hW.alike hK, hDc.weaken (fun _ _ _ _ => trivial), by rw [hU]; exact hXz.at hW hS.2.1 (fun _ h => h.elim)⟩⟩ rfl rfl hl.1 rfl (lv_room (Nat.le_of_ble_eq_true rfl)) d_Lw_law_962 ⟨Nat.le_of_ble_eq_true rfl, Nat.le_of_ble_eq_true rfl⟩) hS (fun q _ h => hFc q h) hFc (fun rv9 u t H1 locs ht hvm hw hB hz1 hk1 hS => ?_)
    try dsimp only at hw hB
    obtain ⟨hP1, hK1, hD1⟩ := hB
    rw [ht] at hP1
    obtain ⟨rfl, hw⟩ := hw
    obtain ⟨hP, hD⟩ := va_join (wr := [(mo, .inr (12, mdF mq mZ mQ 0 0 (nI 20) (nI 0)))]) (w1 := []) hP hD [0] [1] rfl rfl (by decide) (by decide) hk1 hFc hP1 hD1
    have hw93 := hw
    clear hPc hDc hFc hz1 hk1 hP1 hK1 hD1
    generalize H1 = H at hP hS ⊢
    have hP : va_P (dC, dI) vcl [(mo, .inr (12, mdF mq mZ mQ 0 0 (nI 20) (nI 0)))] H := hP
    have hD : va_D A [(mo, .inr (12, mdF mq mZ mQ 0 0 (nI 20) (nI 0)))] := hD
    refine lv_istore (lv' := [(5, .int 1), (0, .ref b), (1, .ref ds), (2, .ref mo), (3, .ref ou), (4, .int 0)]) hx hb d_Lw_law_965 hl (by decide) rfl (fun ls hl => ?_)
    refine lv_aload_n hx hb d_Lw_law_967 rfl (lv_at hl 3 rfl) ?_
    refine lv_aload_n hx hb d_Lw_law_968 rfl (lv_at hl 1 rfl) ?_
    refine lv_iload hx hb d_Lw_law_969 (lv_at hl 5 rfl) ?_
    refine lv_iconst (v := 1) hx hb d_Lw_law_971 (by decide) ?_
    refine lv_iadd hx hb d_Lw_law_972 ?_
    refine va_sld hx hb hX hbl hbA hS (i := (0 + 1)) (vin (by decide)) d_Lw_law_973 ?_
    refine lv_topi (fun x95 e94 => ?_)
    obtain rfl : x95 = xs 1 := by rw [e94]; exact congrArg xs (by decide)
    have hPc := hP.sub (ws' := [(mo, .inr (12, mdF mq mZ mQ 0 0 (nI 20) (nI 0)))]) [0] rfl
    have hDc := hD.sub (ws' := [(mo, .inr (12, mdF mq mZ mQ 0 0 (nI 20) (nI 0)))]) [0] (by decide) rfl
    have hFc := va_free (wc := [(mo, .inr (12, mdF mq mZ mQ 0 0 (nI 20) (nI 0)))]) hD hS hA [0] rfl
    refine va_callv (va_runV (C := "DoorServerModel") (As := [.int (xs 1)]) (rest := []) ⟨hx, hb, hml, hown, hg⟩ (b_seal l dC dI cT H.size mo mq mZ mQ 0 0 20 0 (xs 1) (h1)) (cwV 1 hg (gI (List.forall_mem_append.mpr ⟨List.forall_mem_cons.mpr ⟨k_1271, List.forall_mem_cons.mpr ⟨k_1272, List.forall_mem_cons.mpr ⟨k_1273, List.forall_mem_cons.mpr ⟨k_13, fun _ h => absurd h List.not_mem_nil⟩⟩⟩⟩, List.forall_mem_cons.mpr ⟨k_1274, fun _ h => h⟩⟩)) rfl rfl rfl (by decide +kernel) ⟨Nat.le_of_ble_eq_true rfl, Nat.le_of_ble_eq_true rfl⟩) ⟨fun a U g mk q => by obtain ⟨q0, q1, qP, qK, qD⟩ := q; exact ⟨q0, q1, qP, va_K.moved (u := U) (U := U.calling g mk a) (Vm.Alike.refl U.vm) qK, qD⟩, va_recv (q0 := 0) (ci := 12) hK hP rfl rfl, fun U hU hW => ⟨rfl, by rw [hU], by rw [hU]; exact hPc, va_K.moved hW.alike hK, hDc.weaken (fun _ _ _ _ => trivial)⟩⟩ rfl rfl hl.1 rfl (lv_room (Nat.le_of_ble_eq_true rfl)) d_Lw_law_974 ⟨Nat.le_of_ble_eq_true rfl, Nat.le_of_ble_eq_true rfl⟩) hS (fun q _ h => hFc q h) hFc (fun u t H1 locs ht hvm hw hB hz1 hk1 hS => ?_)
    try dsimp only at hw hB
    obtain ⟨hP1, hK1, hD1⟩ := hB
    rw [ht] at hP1
    obtain ⟨hP, hD⟩ := va_join (wr := []) (w1 := [(mo, .inr (12, mdF mq mZ mQ 1 0 (nI 20) (nI 0)))]) hP hD [0] [] rfl rfl (by decide) (by decide) hk1 hFc hP1 hD1
    have hw96 := hw
    clear hPc hDc hFc hz1 hk1 hP1 hK1 hD1
    generalize H1 = H at hP hS ⊢
    have hP : va_P (dC, dI) vcl [(mo, .inr (12, mdF mq mZ mQ 1 0 (nI 20) (nI 0)))] H := hP
    have hD : va_D A [(mo, .inr (12, mdF mq mZ mQ 1 0 (nI 20) (nI 0)))] := hD
    refine lv_aload_n hx hb d_Lw_law_977 rfl (lv_at hl 3 rfl) ?_
    have hPc := hP.sub (ws' := [(mo, .inr (12, mdF mq mZ mQ 1 0 (nI 20) (nI 0)))]) [0] rfl
    have hDc := hD.sub (ws' := [(mo, .inr (12, mdF mq mZ mQ 1 0 (nI 20) (nI 0)))]) [0] (by decide) rfl
    have hFc := va_free (wc := [(mo, .inr (12, mdF mq mZ mQ 1 0 (nI 20) (nI 0)))]) hD hS hA [0] rfl
    refine va_calli (va_runV (C := "DoorServerModel") (As := []) (rest := []) ⟨hx, hb, hml, hown, hg⟩ (m_thrown l dC dI cT H.size mo mq mZ mQ 1 0 20 0 ) (cwV 0 hg (gI (List.forall_mem_append.mpr ⟨List.forall_mem_cons.mpr ⟨k_1157, List.forall_mem_cons.mpr ⟨k_1158, List.forall_mem_cons.mpr ⟨k_1159, List.forall_mem_cons.mpr ⟨k_13, fun _ h => absurd h List.not_mem_nil⟩⟩⟩⟩, List.forall_mem_cons.mpr ⟨k_1160, fun _ h => h⟩⟩)) rfl rfl rfl (by decide +kernel) ⟨Nat.le_of_ble_eq_true rfl, Nat.le_of_ble_eq_true rfl⟩) ⟨fun a U g mk q => by obtain ⟨q0, q1, qP, qK, qD⟩ := q; exact ⟨q0, q1, qP, va_K.moved (u := U) (U := U.calling g mk a) (Vm.Alike.refl U.vm) qK, qD⟩, va_recv (q0 := 0) (ci := 12) hK hP rfl rfl, fun U hU hW => ⟨rfl, by rw [hU], by rw [hU]; exact hPc, va_K.moved hW.alike hK, hDc.weaken (fun _ _ _ _ => trivial)⟩⟩ rfl rfl hl.1 rfl (lv_room (Nat.le_of_ble_eq_true rfl)) d_Lw_law_978 ⟨Nat.le_of_ble_eq_true rfl, Nat.le_of_ble_eq_true rfl⟩) hS (fun q _ h => hFc q h) hFc (fun rv9 u t H1 locs ht hvm hw hB hz1 hk1 hS => ?_)
    try dsimp only at hw hB
    obtain ⟨hP1, hK1, hD1⟩ := hB
    rw [ht] at hP1
    obtain ⟨rfl, hw⟩ := hw
    obtain ⟨hP, hD⟩ := va_join (wr := []) (w1 := []) hP hD [0] [] rfl rfl (by decide) (by decide) hk1 hFc hP1 hD1
    have hw97 := hw
    clear hPc hDc hFc hz1 hk1 hP1 hK1 hD1
    generalize H1 = H at hP hS ⊢
    have hP : va_P (dC, dI) vcl [] H := hP
    have hD : va_D A [] := hD
    refine lv_iload hx hb d_Lw_law_981 (lv_at hl 0 rfl) ?_
    refine lv_icmp_eq (tgt := 988) hx hb d_Lw_law_983 (by decide) (fun hc98 => ?_) (fun hn9 => absurd (rfl) hn9)
    refine lv_goto (tgt := 1363) hx hb d_Lw_law_988 (by decide) ?_
    refine W.widen (k := 900) (n := 33000) (Nat.le_of_ble_eq_true rfl) (Nat.le_of_ble_eq_true rfl) ?_
    have hl9 : lv_has ls 8 [(0, .ref b), (4, .int 0)] := lv_sub hl [1, 5] rfl
    exact kk _ _ _ hS hl9
  have h1a : ¬ xs 1 < 0 := fun h9 => h1 (Or.inl h9)
  have h1b : ¬ 3 < xs 1 := fun h9 => h1 (Or.inr h9)
  have hs1 := hst1 h1a h1b
  have hP := hP.sub (ws' := [(ds, .inr (0, [.ref dr, .ref sv])), (dr, .inr (2, [.ref rr, .int (nI 20)])), (rr, .inl ((cT 0), 1000, .inl df)), (sv, .inr (5, [.ref se, .ref pw, .ref g0, .ref ty, .ref an, .ref aw, .ref ts, .ref ss, .ref rq, .int 0, .int 0, .int 0])), (se, .inl ((cT 2), 4, .inr (.inr (.inr (.inr gs))))), (sh, .inr (1, [.ref sr, .int (nI 1)])), (sr, .inl ((cT 0), 40, .inl sf)), (g0, .inr (3, [.ref tx, .ref wo, .ref di, .int 0, .int 0, .int 0, .int 0])), (tx, .inr (1, [.ref tr, .int (nI 0)])), (tr, .inl ((cT 0), 1192, .inl (fun _ => 0))), (wo, .inl ((cT 0), 16, .inl (fun _ => 0))), (di, .inl ((cT 0), 16, .inl (fun _ => 0))), (mo, .inr (12, mdF mq mZ mQ 0 0 (nI 20) (nI 0))), (mq 0, .inl ((cT 1), 64, .inr (.inl mS))), (mq 3, .inl ((cT 0), 160, .inl mc)), (mq 4, .inl ((cT 0), 4, .inl mz)), (mq 7, .inl ((cT 0), 1000, .inl mf)), (mq 9, .inl ((cT 0), 1400, .inl (fun _ => 0))), (mq 11, .inl ((cT 0), 16, .inl (fun _ => 0)))]) [0, 1, 2, 3, 4, 5, 6, 10, 11, 12, 13, 14, 22, 23, 24, 25, 28, 29, 30] rfl
  have hD := hD.sub (ws' := [(ds, .inr (0, [.ref dr, .ref sv])), (dr, .inr (2, [.ref rr, .int (nI 20)])), (rr, .inl ((cT 0), 1000, .inl df)), (sv, .inr (5, [.ref se, .ref pw, .ref g0, .ref ty, .ref an, .ref aw, .ref ts, .ref ss, .ref rq, .int 0, .int 0, .int 0])), (se, .inl ((cT 2), 4, .inr (.inr (.inr (.inr gs))))), (sh, .inr (1, [.ref sr, .int (nI 1)])), (sr, .inl ((cT 0), 40, .inl sf)), (g0, .inr (3, [.ref tx, .ref wo, .ref di, .int 0, .int 0, .int 0, .int 0])), (tx, .inr (1, [.ref tr, .int (nI 0)])), (tr, .inl ((cT 0), 1192, .inl (fun _ => 0))), (wo, .inl ((cT 0), 16, .inl (fun _ => 0))), (di, .inl ((cT 0), 16, .inl (fun _ => 0))), (mo, .inr (12, mdF mq mZ mQ 0 0 (nI 20) (nI 0))), (mq 0, .inl ((cT 1), 64, .inr (.inl mS))), (mq 3, .inl ((cT 0), 160, .inl mc)), (mq 4, .inl ((cT 0), 4, .inl mz)), (mq 7, .inl ((cT 0), 1000, .inl mf)), (mq 9, .inl ((cT 0), 1400, .inl (fun _ => 0))), (mq 11, .inl ((cT 0), 16, .inl (fun _ => 0)))]) [0, 1, 2, 3, 4, 5, 6, 10, 11, 12, 13, 14, 22, 23, 24, 25, 28, 29, 30] (by decide) rfl
  refine lv_aload_n hx hb d_Lw_law_955 rfl (lv_at hl 1 rfl) ?_
  refine lv_aload_n hx hb d_Lw_law_956 rfl (lv_at hl 0 rfl) ?_
  refine lv_iload hx hb d_Lw_law_957 (lv_at hl 4 rfl) ?_
  refine lv_iconst (v := 1) hx hb d_Lw_law_959 (by decide) ?_
  refine lv_iadd hx hb d_Lw_law_960 ?_
  refine va_sld hx hb hX hbl hbA hS (i := (0 + 1)) (vin (by decide)) d_Lw_law_961 ?_
  refine lv_topi (fun x100 e99 => ?_)
  obtain rfl : x100 = nI st := by rw [e99]; exact (congrArg xs (by decide)).trans (hs1)
  have hPc := hP.sub (ws' := [(ds, .inr (0, [.ref dr, .ref sv])), (dr, .inr (2, [.ref rr, .int (nI 20)])), (rr, .inl ((cT 0), 1000, .inl df)), (sv, .inr (5, [.ref se, .ref pw, .ref g0, .ref ty, .ref an, .ref aw, .ref ts, .ref ss, .ref rq, .int 0, .int 0, .int 0])), (se, .inl ((cT 2), 4, .inr (.inr (.inr (.inr gs))))), (sh, .inr (1, [.ref sr, .int (nI 1)])), (sr, .inl ((cT 0), 40, .inl sf)), (g0, .inr (3, [.ref tx, .ref wo, .ref di, .int 0, .int 0, .int 0, .int 0])), (tx, .inr (1, [.ref tr, .int (nI 0)])), (tr, .inl ((cT 0), 1192, .inl (fun _ => 0))), (wo, .inl ((cT 0), 16, .inl (fun _ => 0))), (di, .inl ((cT 0), 16, .inl (fun _ => 0)))]) [0, 1, 2, 3, 4, 5, 6, 7, 8, 9, 10, 11] rfl
  have hDc := hD.sub (ws' := [(ds, .inr (0, [.ref dr, .ref sv])), (dr, .inr (2, [.ref rr, .int (nI 20)])), (rr, .inl ((cT 0), 1000, .inl df)), (sv, .inr (5, [.ref se, .ref pw, .ref g0, .ref ty, .ref an, .ref aw, .ref ts, .ref ss, .ref rq, .int 0, .int 0, .int 0])), (se, .inl ((cT 2), 4, .inr (.inr (.inr (.inr gs))))), (sh, .inr (1, [.ref sr, .int (nI 1)])), (sr, .inl ((cT 0), 40, .inl sf)), (g0, .inr (3, [.ref tx, .ref wo, .ref di, .int 0, .int 0, .int 0, .int 0])), (tx, .inr (1, [.ref tr, .int (nI 0)])), (tr, .inl ((cT 0), 1192, .inl (fun _ => 0))), (wo, .inl ((cT 0), 16, .inl (fun _ => 0))), (di, .inl ((cT 0), 16, .inl (fun _ => 0)))]) [0, 1, 2, 3, 4, 5, 6, 7, 8, 9, 10, 11] (by decide) rfl
  have hFc := va_free (wc := [(ds, .inr (0, [.ref dr, .ref sv])), (dr, .inr (2, [.ref rr, .int (nI 20)])), (rr, .inl ((cT 0), 1000, .inl df)), (sv, .inr (5, [.ref se, .ref pw, .ref g0, .ref ty, .ref an, .ref aw, .ref ts, .ref ss, .ref rq, .int 0, .int 0, .int 0])), (se, .inl ((cT 2), 4, .inr (.inr (.inr (.inr gs))))), (sh, .inr (1, [.ref sr, .int (nI 1)])), (sr, .inl ((cT 0), 40, .inl sf)), (g0, .inr (3, [.ref tx, .ref wo, .ref di, .int 0, .int 0, .int 0, .int 0])), (tx, .inr (1, [.ref tr, .int (nI 0)])), (tr, .inl ((cT 0), 1192, .inl (fun _ => 0))), (wo, .inl ((cT 0), 16, .inl (fun _ => 0))), (di, .inl ((cT 0), 16, .inl (fun _ => 0)))]) hD hS hA [0, 1, 2, 3, 4, 5, 6, 7, 8, 9, 10, 11] rfl
  refine va_calli (xw_runS (As := [.ref ds, .int (nI st)]) (rest := []) ⟨hx, hb, hml, hown, hg⟩ (l_seal l dC dI cT H.size ds dr sv rr se pw ty an aw ts ss rq 0 0 0 sh sr 40 1 sf gs st g0 tx tr wo di 0 0 0 0 0 (fun _ => 0) (fun _ => 0) (fun _ => 0) df (hst) (hgs) (by decide) (by decide) (by decide)) rfl (gI (List.forall_mem_cons.mpr ⟨k_667, fun _ h => h⟩)) (hg _ k_665) (hg _ k_666) (hg _ k_0) rfl rfl (n := 2) (by decide +kernel) ⟨Nat.le_of_ble_eq_true rfl, Nat.le_of_ble_eq_true rfl⟩ ⟨fun a U g mk q => by obtain ⟨q0, q1, qP, qK, qD, qE⟩ := q; exact ⟨q0, q1, qP, va_K.moved (u := U) (U := U.calling g mk a) (Vm.Alike.refl U.vm) qK, qD, qE.at (State.WarmedH.refl _) (fun _ _ _ => rfl) (fun _ h => h)⟩, fun U hU hW => ⟨rfl, by rw [hU], by rw [hU]; exact hPc, va_K.moved hW.alike hK, hDc.weaken (fun _ _ _ _ => trivial), by rw [hU]; exact hXm.at hW hS.2.1 hFc⟩⟩ rfl rfl hl.1 rfl (lv_room (Nat.le_of_ble_eq_true rfl)) d_Lw_law_962 ⟨Nat.le_of_ble_eq_true rfl, Nat.le_of_ble_eq_true rfl⟩) hS (fun q _ h => hFc q h) hFc (fun rv9 u t H1 locs ht hvm hw hB hz1 hk1 hS => ?_)
  try dsimp only at hw hB
  obtain ⟨hP1, hK1, hD1⟩ := hB
  rw [ht] at hP1
  obtain ⟨rfl, hw⟩ := hw
  obtain ⟨hP, hD⟩ := va_join (wr := [(mo, .inr (12, mdF mq mZ mQ 0 0 (nI 20) (nI 0))), (mq 0, .inl ((cT 1), 64, .inr (.inl mS))), (mq 3, .inl ((cT 0), 160, .inl mc)), (mq 4, .inl ((cT 0), 4, .inl mz)), (mq 7, .inl ((cT 0), 1000, .inl mf)), (mq 9, .inl ((cT 0), 1400, .inl (fun _ => 0))), (mq 11, .inl ((cT 0), 16, .inl (fun _ => 0)))]) (w1 := []) hP hD [0, 1, 2, 3, 4, 5, 6, 7, 8, 9, 10, 11] [12, 13, 14, 15, 16, 17, 18] rfl rfl (by decide) (by decide) hk1 hFc hP1 hD1
  have hw101 := hw
  clear hPc hDc hFc hz1 hk1 hP1 hK1 hD1
  generalize H1 = H at hP hS ⊢
  have hP : va_P (dC, dI) vcl [(mo, .inr (12, mdF mq mZ mQ 0 0 (nI 20) (nI 0))), (mq 0, .inl ((cT 1), 64, .inr (.inl mS))), (mq 3, .inl ((cT 0), 160, .inl mc)), (mq 4, .inl ((cT 0), 4, .inl mz)), (mq 7, .inl ((cT 0), 1000, .inl mf)), (mq 9, .inl ((cT 0), 1400, .inl (fun _ => 0))), (mq 11, .inl ((cT 0), 16, .inl (fun _ => 0)))] H := hP
  have hD : va_D A [(mo, .inr (12, mdF mq mZ mQ 0 0 (nI 20) (nI 0))), (mq 0, .inl ((cT 1), 64, .inr (.inl mS))), (mq 3, .inl ((cT 0), 160, .inl mc)), (mq 4, .inl ((cT 0), 4, .inl mz)), (mq 7, .inl ((cT 0), 1000, .inl mf)), (mq 9, .inl ((cT 0), 1400, .inl (fun _ => 0))), (mq 11, .inl ((cT 0), 16, .inl (fun _ => 0)))] := hD
  refine lv_istore (lv' := [(5, .int 0), (0, .ref b), (1, .ref ds), (2, .ref mo), (3, .ref ou), (4, .int 0)]) hx hb d_Lw_law_965 hl (by decide) rfl (fun ls hl => ?_)
  refine lv_aload_n hx hb d_Lw_law_967 rfl (lv_at hl 3 rfl) ?_
  refine lv_aload_n hx hb d_Lw_law_968 rfl (lv_at hl 1 rfl) ?_
  refine lv_iload hx hb d_Lw_law_969 (lv_at hl 5 rfl) ?_
  refine lv_iconst (v := 1) hx hb d_Lw_law_971 (by decide) ?_
  refine lv_iadd hx hb d_Lw_law_972 ?_
  refine va_sld hx hb hX hbl hbA hS (i := (0 + 1)) (vin (by decide)) d_Lw_law_973 ?_
  refine lv_topi (fun x103 e102 => ?_)
  obtain rfl : x103 = nI st := by rw [e102]; exact (congrArg xs (by decide)).trans (hs1)
  have hPc := hP.sub (ws' := [(mo, .inr (12, mdF mq mZ mQ 0 0 (nI 20) (nI 0))), (mq 9, .inl ((cT 0), 1400, .inl (fun _ => 0))), (mq 3, .inl ((cT 0), 160, .inl mc)), (mq 4, .inl ((cT 0), 4, .inl mz)), (mq 7, .inl ((cT 0), 1000, .inl mf)), (mq 0, .inl ((cT 1), 64, .inr (.inl mS))), (mq 11, .inl ((cT 0), 16, .inl (fun _ => 0)))]) [0, 5, 2, 3, 4, 1, 6] rfl
  have hDc := hD.sub (ws' := [(mo, .inr (12, mdF mq mZ mQ 0 0 (nI 20) (nI 0))), (mq 9, .inl ((cT 0), 1400, .inl (fun _ => 0))), (mq 3, .inl ((cT 0), 160, .inl mc)), (mq 4, .inl ((cT 0), 4, .inl mz)), (mq 7, .inl ((cT 0), 1000, .inl mf)), (mq 0, .inl ((cT 1), 64, .inr (.inl mS))), (mq 11, .inl ((cT 0), 16, .inl (fun _ => 0)))]) [0, 5, 2, 3, 4, 1, 6] (by decide) rfl
  have hFc := va_free (wc := [(mo, .inr (12, mdF mq mZ mQ 0 0 (nI 20) (nI 0))), (mq 9, .inl ((cT 0), 1400, .inl (fun _ => 0))), (mq 3, .inl ((cT 0), 160, .inl mc)), (mq 4, .inl ((cT 0), 4, .inl mz)), (mq 7, .inl ((cT 0), 1000, .inl mf)), (mq 0, .inl ((cT 1), 64, .inr (.inl mS))), (mq 11, .inl ((cT 0), 16, .inl (fun _ => 0)))]) hD hS hA [0, 5, 2, 3, 4, 1, 6] rfl
  refine va_callv (va_runV (C := "DoorServerModel") (As := [.int (nI st)]) (rest := []) ⟨hx, hb, hml, hown, hg⟩ (o_seal l dC dI cT H.size mo mq mZ mQ 0 0 20 0 (fun _ => 0) mS (fun _ => 0) mc mz st 1 mf (hst) (hmz st hst) (by decide)) (cwV 1 hg (gI (List.forall_mem_append.mpr ⟨List.forall_mem_cons.mpr ⟨k_1271, List.forall_mem_cons.mpr ⟨k_1272, List.forall_mem_cons.mpr ⟨k_1273, List.forall_mem_cons.mpr ⟨k_13, fun _ h => absurd h List.not_mem_nil⟩⟩⟩⟩, List.forall_mem_cons.mpr ⟨k_1274, fun _ h => h⟩⟩)) rfl rfl rfl (by decide +kernel) ⟨Nat.le_of_ble_eq_true rfl, Nat.le_of_ble_eq_true rfl⟩) ⟨fun a U g mk q => by obtain ⟨q0, q1, qP, qK, qD⟩ := q; exact ⟨q0, q1, qP, va_K.moved (u := U) (U := U.calling g mk a) (Vm.Alike.refl U.vm) qK, qD⟩, va_recv (q0 := 0) (ci := 12) hK hP rfl rfl, fun U hU hW => ⟨rfl, by rw [hU], by rw [hU]; exact hPc, va_K.moved hW.alike hK, hDc.weaken (fun _ _ _ _ => trivial)⟩⟩ rfl rfl hl.1 rfl (lv_room (Nat.le_of_ble_eq_true rfl)) d_Lw_law_974 ⟨Nat.le_of_ble_eq_true rfl, Nat.le_of_ble_eq_true rfl⟩) hS (fun q _ h => hFc q h) hFc (fun u t H1 locs ht hvm hw hB hz1 hk1 hS => ?_)
  try dsimp only at hw hB
  obtain ⟨hP1, hK1, hD1⟩ := hB
  rw [ht] at hP1
  obtain ⟨hP, hD⟩ := va_join (wr := []) (w1 := [(mo, .inr (12, mdF mq mZ mQ 0 0 (nI 20) (nI 0)))]) hP hD [0, 5, 2, 3, 4, 1, 6] [] rfl rfl (by decide) (by decide) hk1 hFc hP1 hD1
  have hw104 := hw
  clear hPc hDc hFc hz1 hk1 hP1 hK1 hD1
  generalize H1 = H at hP hS ⊢
  have hP : va_P (dC, dI) vcl [(mo, .inr (12, mdF mq mZ mQ 0 0 (nI 20) (nI 0)))] H := hP
  have hD : va_D A [(mo, .inr (12, mdF mq mZ mQ 0 0 (nI 20) (nI 0)))] := hD
  refine lv_aload_n hx hb d_Lw_law_977 rfl (lv_at hl 3 rfl) ?_
  have hPc := hP.sub (ws' := [(mo, .inr (12, mdF mq mZ mQ 0 0 (nI 20) (nI 0)))]) [0] rfl
  have hDc := hD.sub (ws' := [(mo, .inr (12, mdF mq mZ mQ 0 0 (nI 20) (nI 0)))]) [0] (by decide) rfl
  have hFc := va_free (wc := [(mo, .inr (12, mdF mq mZ mQ 0 0 (nI 20) (nI 0)))]) hD hS hA [0] rfl
  refine va_calli (va_runV (C := "DoorServerModel") (As := []) (rest := []) ⟨hx, hb, hml, hown, hg⟩ (m_thrown l dC dI cT H.size mo mq mZ mQ 0 0 20 0 ) (cwV 0 hg (gI (List.forall_mem_append.mpr ⟨List.forall_mem_cons.mpr ⟨k_1157, List.forall_mem_cons.mpr ⟨k_1158, List.forall_mem_cons.mpr ⟨k_1159, List.forall_mem_cons.mpr ⟨k_13, fun _ h => absurd h List.not_mem_nil⟩⟩⟩⟩, List.forall_mem_cons.mpr ⟨k_1160, fun _ h => h⟩⟩)) rfl rfl rfl (by decide +kernel) ⟨Nat.le_of_ble_eq_true rfl, Nat.le_of_ble_eq_true rfl⟩) ⟨fun a U g mk q => by obtain ⟨q0, q1, qP, qK, qD⟩ := q; exact ⟨q0, q1, qP, va_K.moved (u := U) (U := U.calling g mk a) (Vm.Alike.refl U.vm) qK, qD⟩, va_recv (q0 := 0) (ci := 12) hK hP rfl rfl, fun U hU hW => ⟨rfl, by rw [hU], by rw [hU]; exact hPc, va_K.moved hW.alike hK, hDc.weaken (fun _ _ _ _ => trivial)⟩⟩ rfl rfl hl.1 rfl (lv_room (Nat.le_of_ble_eq_true rfl)) d_Lw_law_978 ⟨Nat.le_of_ble_eq_true rfl, Nat.le_of_ble_eq_true rfl⟩) hS (fun q _ h => hFc q h) hFc (fun rv9 u t H1 locs ht hvm hw hB hz1 hk1 hS => ?_)
  try dsimp only at hw hB
  obtain ⟨hP1, hK1, hD1⟩ := hB
  rw [ht] at hP1
  obtain ⟨rfl, hw⟩ := hw
  obtain ⟨hP, hD⟩ := va_join (wr := []) (w1 := []) hP hD [0] [] rfl rfl (by decide) (by decide) hk1 hFc hP1 hD1
  have hw105 := hw
  clear hPc hDc hFc hz1 hk1 hP1 hK1 hD1
  generalize H1 = H at hP hS ⊢
  have hP : va_P (dC, dI) vcl [] H := hP
  have hD : va_D A [] := hD
  refine lv_iload hx hb d_Lw_law_981 (lv_at hl 0 rfl) ?_
  refine lv_icmp_eq (tgt := 988) hx hb d_Lw_law_983 (by decide) (fun hc106 => ?_) (fun hn9 => absurd (rfl) hn9)
  refine lv_goto (tgt := 1363) hx hb d_Lw_law_988 (by decide) ?_
  refine W.widen (k := 900) (n := 33000) (Nat.le_of_ble_eq_true rfl) (Nat.le_of_ble_eq_true rfl) ?_
  have hl9 : lv_has ls 8 [(0, .ref b), (4, .int 0)] := lv_sub hl [1, 5] rfl
  exact kk _ _ _ hS hl9

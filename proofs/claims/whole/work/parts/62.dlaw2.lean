section DL2
theorem d_Q_law_620 : decode code 620 = .ok (.istore 6, 2) := by decide +kernel
theorem d_Q_law_622 : decode code 622 = .ok (.aload_n 2, 1) := by decide +kernel
theorem d_Q_law_623 : decode code 623 = .ok (.invokevirtual 72, 3) := by decide +kernel
theorem d_Q_law_626 : decode code 626 = .ok (.iload 5, 2) := by decide +kernel
theorem d_Q_law_628 : decode code 628 = .ok (.if_icmp .eq 5, 3) := by decide +kernel
theorem d_Q_law_631 : decode code 631 = .ok (.iconst 0, 1) := by decide +kernel
theorem d_Q_law_632 : decode code 632 = .ok (.ireturn, 1) := by decide +kernel
theorem d_Q_law_633 : decode code 633 = .ok (.iload 5, 2) := by decide +kernel
theorem d_Q_law_635 : decode code 635 = .ok (.ifCond .ne 22, 3) := by decide +kernel
theorem d_Q_law_638 : decode code 638 = .ok (.aload_n 3, 1) := by decide +kernel
theorem d_Q_law_639 : decode code 639 = .ok (.iconst 0, 1) := by decide +kernel
theorem d_Q_law_640 : decode code 640 = .ok (.laload, 1) := by decide +kernel
theorem d_Q_law_641 : decode code 641 = .ok (.iload 6, 2) := by decide +kernel
theorem d_Q_law_643 : decode code 643 = .ok (.ifCond .eq 7, 3) := by decide +kernel
theorem d_Q_law_646 : decode code 646 = .ok (.lconst 1, 1) := by decide +kernel
theorem d_Q_law_647 : decode code 647 = .ok (.goto 4, 3) := by decide +kernel
theorem d_Q_law_650 : decode code 650 = .ok (.lconst 0, 1) := by decide +kernel
theorem d_Q_law_651 : decode code 651 = .ok (.lcmp, 1) := by decide +kernel
theorem d_Q_law_652 : decode code 652 = .ok (.ifCond .eq 5, 3) := by decide +kernel
theorem d_Q_law_655 : decode code 655 = .ok (.iconst 0, 1) := by decide +kernel
theorem d_Q_law_656 : decode code 656 = .ok (.ireturn, 1) := by decide +kernel
theorem d_Q_law_657 : decode code 657 = .ok (.goto 490, 3) := by decide +kernel
theorem d_Q_law_660 : decode code 660 = .ok (.aload_n 1, 1) := by decide +kernel
theorem d_Q_law_661 : decode code 661 = .ok (.aload_n 0, 1) := by decide +kernel
theorem d_Q_law_662 : decode code 662 = .ok (.iload 4, 2) := by decide +kernel
theorem d_Q_law_664 : decode code 664 = .ok (.iconst 1, 1) := by decide +kernel
theorem d_Q_law_665 : decode code 665 = .ok (.iadd, 1) := by decide +kernel
theorem d_Q_law_666 : decode code 666 = .ok (.iaload, 1) := by decide +kernel
theorem d_Q_law_667 : decode code 667 = .ok (.aload_n 0, 1) := by decide +kernel
theorem d_Q_law_668 : decode code 668 = .ok (.iload 4, 2) := by decide +kernel
theorem d_Q_law_670 : decode code 670 = .ok (.iconst 2, 1) := by decide +kernel
theorem d_Q_law_671 : decode code 671 = .ok (.iadd, 1) := by decide +kernel
theorem d_Q_law_672 : decode code 672 = .ok (.iaload, 1) := by decide +kernel
theorem d_Q_law_673 : decode code 673 = .ok (.aload_n 3, 1) := by decide +kernel
theorem d_Q_law_674 : decode code 674 = .ok (.invokestatic 95, 3) := by decide +kernel
theorem d_Q_law_677 : decode code 677 = .ok (.istore 5, 2) := by decide +kernel
theorem d_Q_law_679 : decode code 679 = .ok (.aload_n 2, 1) := by decide +kernel
theorem d_Q_law_680 : decode code 680 = .ok (.aload_n 0, 1) := by decide +kernel
theorem d_Q_law_681 : decode code 681 = .ok (.iload 4, 2) := by decide +kernel
theorem d_Q_law_683 : decode code 683 = .ok (.iconst 1, 1) := by decide +kernel
theorem d_Q_law_684 : decode code 684 = .ok (.iadd, 1) := by decide +kernel
theorem d_Q_law_685 : decode code 685 = .ok (.iaload, 1) := by decide +kernel
theorem d_Q_law_686 : decode code 686 = .ok (.aload_n 0, 1) := by decide +kernel
theorem d_Q_law_687 : decode code 687 = .ok (.iload 4, 2) := by decide +kernel
theorem d_Q_law_689 : decode code 689 = .ok (.iconst 2, 1) := by decide +kernel
theorem d_Q_law_690 : decode code 690 = .ok (.iadd, 1) := by decide +kernel
theorem d_Q_law_691 : decode code 691 = .ok (.iaload, 1) := by decide +kernel
theorem d_Q_law_692 : decode code 692 = .ok (.invokevirtual 97, 3) := by decide +kernel
theorem d_Q_law_695 : decode code 695 = .ok (.istore 6, 2) := by decide +kernel
theorem d_Q_law_697 : decode code 697 = .ok (.aload_n 2, 1) := by decide +kernel
theorem d_Q_law_698 : decode code 698 = .ok (.invokevirtual 72, 3) := by decide +kernel
theorem d_Q_law_701 : decode code 701 = .ok (.iload 5, 2) := by decide +kernel
theorem d_Q_law_703 : decode code 703 = .ok (.if_icmp .eq 5, 3) := by decide +kernel
theorem d_Q_law_706 : decode code 706 = .ok (.iconst 0, 1) := by decide +kernel
theorem d_Q_law_707 : decode code 707 = .ok (.ireturn, 1) := by decide +kernel
theorem d_Q_law_708 : decode code 708 = .ok (.iload 5, 2) := by decide +kernel
theorem d_Q_law_710 : decode code 710 = .ok (.ifCond .ne 15, 3) := by decide +kernel
theorem d_Q_law_713 : decode code 713 = .ok (.aload_n 3, 1) := by decide +kernel
theorem d_Q_law_714 : decode code 714 = .ok (.iconst 0, 1) := by decide +kernel
theorem d_Q_law_715 : decode code 715 = .ok (.laload, 1) := by decide +kernel
theorem d_Q_law_716 : decode code 716 = .ok (.iload 6, 2) := by decide +kernel
theorem d_Q_law_718 : decode code 718 = .ok (.i2l, 1) := by decide +kernel
theorem d_Q_law_719 : decode code 719 = .ok (.lcmp, 1) := by decide +kernel
theorem d_Q_law_720 : decode code 720 = .ok (.ifCond .eq 5, 3) := by decide +kernel
theorem d_Q_law_723 : decode code 723 = .ok (.iconst 0, 1) := by decide +kernel
theorem d_Q_law_724 : decode code 724 = .ok (.ireturn, 1) := by decide +kernel
theorem d_Q_law_725 : decode code 725 = .ok (.goto 422, 3) := by decide +kernel
theorem d_Q_law_728 : decode code 728 = .ok (.aload_n 1, 1) := by decide +kernel
theorem d_Q_law_729 : decode code 729 = .ok (.aload_n 0, 1) := by decide +kernel
theorem d_Q_law_730 : decode code 730 = .ok (.iload 4, 2) := by decide +kernel
theorem d_Q_law_732 : decode code 732 = .ok (.iconst 1, 1) := by decide +kernel
theorem d_Q_law_733 : decode code 733 = .ok (.iadd, 1) := by decide +kernel
theorem d_Q_law_734 : decode code 734 = .ok (.iaload, 1) := by decide +kernel
theorem d_Q_law_735 : decode code 735 = .ok (.aload_n 0, 1) := by decide +kernel
theorem d_Q_law_736 : decode code 736 = .ok (.iload 4, 2) := by decide +kernel
theorem d_Q_law_738 : decode code 738 = .ok (.iconst 2, 1) := by decide +kernel
theorem d_Q_law_739 : decode code 739 = .ok (.iadd, 1) := by decide +kernel
theorem d_Q_law_740 : decode code 740 = .ok (.iaload, 1) := by decide +kernel
theorem d_Q_law_741 : decode code 741 = .ok (.aload_n 3, 1) := by decide +kernel
theorem d_Q_law_742 : decode code 742 = .ok (.invokestatic 98, 3) := by decide +kernel
theorem d_Q_law_745 : decode code 745 = .ok (.istore 5, 2) := by decide +kernel
theorem d_Q_law_747 : decode code 747 = .ok (.aload_n 2, 1) := by decide +kernel
theorem d_Q_law_748 : decode code 748 = .ok (.aload_n 0, 1) := by decide +kernel
theorem d_Q_law_749 : decode code 749 = .ok (.iload 4, 2) := by decide +kernel
theorem d_Q_law_751 : decode code 751 = .ok (.iconst 1, 1) := by decide +kernel
theorem d_Q_law_752 : decode code 752 = .ok (.iadd, 1) := by decide +kernel
theorem d_Q_law_753 : decode code 753 = .ok (.iaload, 1) := by decide +kernel
theorem d_Q_law_754 : decode code 754 = .ok (.aload_n 0, 1) := by decide +kernel
theorem d_Q_law_755 : decode code 755 = .ok (.iload 4, 2) := by decide +kernel
theorem d_Q_law_757 : decode code 757 = .ok (.iconst 2, 1) := by decide +kernel
theorem d_Q_law_758 : decode code 758 = .ok (.iadd, 1) := by decide +kernel
theorem d_Q_law_759 : decode code 759 = .ok (.iaload, 1) := by decide +kernel
theorem d_Q_law_760 : decode code 760 = .ok (.invokevirtual 100, 3) := by decide +kernel
theorem d_Q_law_763 : decode code 763 = .ok (.istore 6, 2) := by decide +kernel
theorem d_Q_law_765 : decode code 765 = .ok (.aload_n 2, 1) := by decide +kernel
theorem d_Q_law_766 : decode code 766 = .ok (.invokevirtual 72, 3) := by decide +kernel
theorem d_Q_law_769 : decode code 769 = .ok (.iload 5, 2) := by decide +kernel
theorem d_Q_law_771 : decode code 771 = .ok (.if_icmp .eq 5, 3) := by decide +kernel
theorem d_Q_law_774 : decode code 774 = .ok (.iconst 0, 1) := by decide +kernel
theorem d_Q_law_775 : decode code 775 = .ok (.ireturn, 1) := by decide +kernel
theorem d_Q_law_776 : decode code 776 = .ok (.iload 5, 2) := by decide +kernel
theorem d_Q_law_778 : decode code 778 = .ok (.ifCond .ne 15, 3) := by decide +kernel
theorem d_Q_law_781 : decode code 781 = .ok (.aload_n 3, 1) := by decide +kernel
theorem d_Q_law_782 : decode code 782 = .ok (.iconst 0, 1) := by decide +kernel
theorem d_Q_law_783 : decode code 783 = .ok (.laload, 1) := by decide +kernel
theorem d_Q_law_784 : decode code 784 = .ok (.iload 6, 2) := by decide +kernel
theorem d_Q_law_786 : decode code 786 = .ok (.i2l, 1) := by decide +kernel
theorem d_Q_law_787 : decode code 787 = .ok (.lcmp, 1) := by decide +kernel
theorem d_Q_law_788 : decode code 788 = .ok (.ifCond .eq 5, 3) := by decide +kernel
theorem d_Q_law_791 : decode code 791 = .ok (.iconst 0, 1) := by decide +kernel
theorem d_Q_law_792 : decode code 792 = .ok (.ireturn, 1) := by decide +kernel
theorem d_Q_law_793 : decode code 793 = .ok (.goto 354, 3) := by decide +kernel
theorem d_Q_law_796 : decode code 796 = .ok (.aload_n 1, 1) := by decide +kernel
theorem d_Q_law_797 : decode code 797 = .ok (.aload_n 0, 1) := by decide +kernel
theorem d_Q_law_798 : decode code 798 = .ok (.iload 4, 2) := by decide +kernel
theorem d_Q_law_800 : decode code 800 = .ok (.iconst 1, 1) := by decide +kernel
theorem d_Q_law_801 : decode code 801 = .ok (.iadd, 1) := by decide +kernel
theorem d_Q_law_802 : decode code 802 = .ok (.iaload, 1) := by decide +kernel
theorem d_Q_law_803 : decode code 803 = .ok (.aload_n 0, 1) := by decide +kernel
theorem d_Q_law_804 : decode code 804 = .ok (.iload 4, 2) := by decide +kernel
theorem d_Q_law_806 : decode code 806 = .ok (.iconst 2, 1) := by decide +kernel
theorem d_Q_law_807 : decode code 807 = .ok (.iadd, 1) := by decide +kernel
theorem d_Q_law_808 : decode code 808 = .ok (.iaload, 1) := by decide +kernel
theorem d_Q_law_809 : decode code 809 = .ok (.aload_n 0, 1) := by decide +kernel
theorem d_Q_law_810 : decode code 810 = .ok (.iload 4, 2) := by decide +kernel
theorem d_Q_law_812 : decode code 812 = .ok (.iconst 3, 1) := by decide +kernel
theorem d_Q_law_813 : decode code 813 = .ok (.iadd, 1) := by decide +kernel
theorem d_Q_law_814 : decode code 814 = .ok (.iaload, 1) := by decide +kernel
theorem d_Q_law_815 : decode code 815 = .ok (.aload_n 0, 1) := by decide +kernel
theorem d_Q_law_816 : decode code 816 = .ok (.iload 4, 2) := by decide +kernel
theorem d_Q_law_818 : decode code 818 = .ok (.iconst 4, 1) := by decide +kernel
theorem d_Q_law_819 : decode code 819 = .ok (.iadd, 1) := by decide +kernel
theorem d_Q_law_820 : decode code 820 = .ok (.iaload, 1) := by decide +kernel
theorem d_Q_law_821 : decode code 821 = .ok (.aload_n 3, 1) := by decide +kernel
theorem d_Q_law_822 : decode code 822 = .ok (.invokestatic 101, 3) := by decide +kernel
theorem d_Q_law_825 : decode code 825 = .ok (.istore 5, 2) := by decide +kernel
theorem d_Q_law_827 : decode code 827 = .ok (.aload_n 2, 1) := by decide +kernel
theorem d_Q_law_828 : decode code 828 = .ok (.aload_n 0, 1) := by decide +kernel
theorem d_Q_law_829 : decode code 829 = .ok (.iload 4, 2) := by decide +kernel
theorem d_Q_law_831 : decode code 831 = .ok (.iconst 1, 1) := by decide +kernel
theorem d_Q_law_832 : decode code 832 = .ok (.iadd, 1) := by decide +kernel
theorem d_Q_law_833 : decode code 833 = .ok (.iaload, 1) := by decide +kernel
theorem d_Q_law_834 : decode code 834 = .ok (.aload_n 0, 1) := by decide +kernel
theorem d_Q_law_835 : decode code 835 = .ok (.iload 4, 2) := by decide +kernel
theorem d_Q_law_837 : decode code 837 = .ok (.iconst 2, 1) := by decide +kernel
theorem d_Q_law_838 : decode code 838 = .ok (.iadd, 1) := by decide +kernel
theorem d_Q_law_839 : decode code 839 = .ok (.iaload, 1) := by decide +kernel
theorem d_Q_law_840 : decode code 840 = .ok (.aload_n 0, 1) := by decide +kernel
theorem d_Q_law_841 : decode code 841 = .ok (.iload 4, 2) := by decide +kernel
theorem d_Q_law_843 : decode code 843 = .ok (.iconst 3, 1) := by decide +kernel
theorem d_Q_law_844 : decode code 844 = .ok (.iadd, 1) := by decide +kernel
theorem d_Q_law_845 : decode code 845 = .ok (.iaload, 1) := by decide +kernel
theorem d_Q_law_846 : decode code 846 = .ok (.aload_n 0, 1) := by decide +kernel
theorem d_Q_law_847 : decode code 847 = .ok (.iload 4, 2) := by decide +kernel
theorem d_Q_law_849 : decode code 849 = .ok (.iconst 4, 1) := by decide +kernel
theorem d_Q_law_850 : decode code 850 = .ok (.iadd, 1) := by decide +kernel
theorem d_Q_law_851 : decode code 851 = .ok (.iaload, 1) := by decide +kernel
theorem d_Q_law_852 : decode code 852 = .ok (.invokevirtual 104, 3) := by decide +kernel
theorem d_Q_law_855 : decode code 855 = .ok (.istore 6, 2) := by decide +kernel
theorem d_Q_law_857 : decode code 857 = .ok (.aload_n 2, 1) := by decide +kernel
theorem d_Q_law_858 : decode code 858 = .ok (.invokevirtual 72, 3) := by decide +kernel
theorem d_Q_law_861 : decode code 861 = .ok (.iload 5, 2) := by decide +kernel
theorem d_Q_law_863 : decode code 863 = .ok (.if_icmp .eq 5, 3) := by decide +kernel
theorem d_Q_law_866 : decode code 866 = .ok (.iconst 0, 1) := by decide +kernel
theorem d_Q_law_867 : decode code 867 = .ok (.ireturn, 1) := by decide +kernel
theorem d_Q_law_868 : decode code 868 = .ok (.iload 5, 2) := by decide +kernel
theorem d_Q_law_870 : decode code 870 = .ok (.ifCond .ne 15, 3) := by decide +kernel
theorem d_Q_law_873 : decode code 873 = .ok (.aload_n 3, 1) := by decide +kernel
theorem d_Q_law_874 : decode code 874 = .ok (.iconst 0, 1) := by decide +kernel
theorem d_Q_law_875 : decode code 875 = .ok (.laload, 1) := by decide +kernel
theorem d_Q_law_876 : decode code 876 = .ok (.iload 6, 2) := by decide +kernel
theorem d_Q_law_878 : decode code 878 = .ok (.i2l, 1) := by decide +kernel
theorem d_Q_law_879 : decode code 879 = .ok (.lcmp, 1) := by decide +kernel
theorem d_Q_law_880 : decode code 880 = .ok (.ifCond .eq 5, 3) := by decide +kernel
theorem d_Q_law_883 : decode code 883 = .ok (.iconst 0, 1) := by decide +kernel
theorem d_Q_law_884 : decode code 884 = .ok (.ireturn, 1) := by decide +kernel
theorem d_Q_law_885 : decode code 885 = .ok (.goto 262, 3) := by decide +kernel
theorem d_Q_law_888 : decode code 888 = .ok (.aload_n 1, 1) := by decide +kernel
theorem d_Q_law_889 : decode code 889 = .ok (.aload_n 0, 1) := by decide +kernel
theorem d_Q_law_890 : decode code 890 = .ok (.iload 4, 2) := by decide +kernel
theorem d_Q_law_892 : decode code 892 = .ok (.iconst 1, 1) := by decide +kernel
theorem d_Q_law_893 : decode code 893 = .ok (.iadd, 1) := by decide +kernel
theorem d_Q_law_894 : decode code 894 = .ok (.iaload, 1) := by decide +kernel
theorem d_Q_law_895 : decode code 895 = .ok (.aload_n 0, 1) := by decide +kernel
theorem d_Q_law_896 : decode code 896 = .ok (.iload 4, 2) := by decide +kernel
theorem d_Q_law_898 : decode code 898 = .ok (.iconst 2, 1) := by decide +kernel
theorem d_Q_law_899 : decode code 899 = .ok (.iadd, 1) := by decide +kernel
theorem d_Q_law_900 : decode code 900 = .ok (.iaload, 1) := by decide +kernel
theorem d_Q_law_901 : decode code 901 = .ok (.aload_n 0, 1) := by decide +kernel
theorem d_Q_law_902 : decode code 902 = .ok (.iload 4, 2) := by decide +kernel
end DL2

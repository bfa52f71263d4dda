/-! the law's instructions -/
theorem dL_law__659 : decode cL_law_ 659 = .ok (.i2l, 1) := by decide +kernel
theorem dL_law__660 : decode cL_law_ 660 = .ok (.bipush 32, 2) := by decide +kernel
theorem dL_law__662 : decode cL_law_ 662 = .ok (.lshl, 1) := by decide +kernel
theorem dL_law__663 : decode cL_law_ 663 = .ok (.aload_n 0, 1) := by decide +kernel
theorem dL_law__664 : decode cL_law_ 664 = .ok (.iload 4, 2) := by decide +kernel
theorem dL_law__666 : decode cL_law_ 666 = .ok (.iconst 2, 1) := by decide +kernel
theorem dL_law__667 : decode cL_law_ 667 = .ok (.iadd, 1) := by decide +kernel
theorem dL_law__668 : decode cL_law_ 668 = .ok (.iaload, 1) := by decide +kernel
theorem dL_law__669 : decode cL_law_ 669 = .ok (.i2l, 1) := by decide +kernel
theorem dL_law__670 : decode cL_law_ 670 = .ok (.ldc2_w 178, 3) := by decide +kernel
theorem dL_law__673 : decode cL_law_ 673 = .ok (.land, 1) := by decide +kernel
theorem dL_law__674 : decode cL_law_ 674 = .ok (.lor, 1) := by decide +kernel
theorem dL_law__675 : decode cL_law_ 675 = .ok (.aload_n 0, 1) := by decide +kernel
theorem dL_law__676 : decode cL_law_ 676 = .ok (.iload 4, 2) := by decide +kernel
theorem dL_law__678 : decode cL_law_ 678 = .ok (.iconst 3, 1) := by decide +kernel
theorem dL_law__679 : decode cL_law_ 679 = .ok (.iadd, 1) := by decide +kernel
theorem dL_law__680 : decode cL_law_ 680 = .ok (.iaload, 1) := by decide +kernel
theorem dL_law__681 : decode cL_law_ 681 = .ok (.aload_n 3, 1) := by decide +kernel
theorem dL_law__682 : decode cL_law_ 682 = .ok (.invokestatic 180, 3) := by decide +kernel
theorem dL_law__685 : decode cL_law_ 685 = .ok (.istore 5, 2) := by decide +kernel
theorem dL_law__687 : decode cL_law_ 687 = .ok (.aload_n 2, 1) := by decide +kernel
theorem dL_law__688 : decode cL_law_ 688 = .ok (.aload_n 0, 1) := by decide +kernel
theorem dL_law__689 : decode cL_law_ 689 = .ok (.iload 4, 2) := by decide +kernel
theorem dL_law__691 : decode cL_law_ 691 = .ok (.iconst 1, 1) := by decide +kernel
theorem dL_law__692 : decode cL_law_ 692 = .ok (.iadd, 1) := by decide +kernel
theorem dL_law__693 : decode cL_law_ 693 = .ok (.iaload, 1) := by decide +kernel
theorem dL_law__694 : decode cL_law_ 694 = .ok (.i2l, 1) := by decide +kernel
theorem dL_law__695 : decode cL_law_ 695 = .ok (.bipush 32, 2) := by decide +kernel
theorem dL_law__697 : decode cL_law_ 697 = .ok (.lshl, 1) := by decide +kernel
theorem dL_law__698 : decode cL_law_ 698 = .ok (.aload_n 0, 1) := by decide +kernel
theorem dL_law__699 : decode cL_law_ 699 = .ok (.iload 4, 2) := by decide +kernel
theorem dL_law__701 : decode cL_law_ 701 = .ok (.iconst 2, 1) := by decide +kernel
theorem dL_law__702 : decode cL_law_ 702 = .ok (.iadd, 1) := by decide +kernel
theorem dL_law__703 : decode cL_law_ 703 = .ok (.iaload, 1) := by decide +kernel
theorem dL_law__704 : decode cL_law_ 704 = .ok (.i2l, 1) := by decide +kernel
theorem dL_law__705 : decode cL_law_ 705 = .ok (.ldc2_w 178, 3) := by decide +kernel
theorem dL_law__708 : decode cL_law_ 708 = .ok (.land, 1) := by decide +kernel
theorem dL_law__709 : decode cL_law_ 709 = .ok (.lor, 1) := by decide +kernel
theorem dL_law__710 : decode cL_law_ 710 = .ok (.aload_n 0, 1) := by decide +kernel
theorem dL_law__711 : decode cL_law_ 711 = .ok (.iload 4, 2) := by decide +kernel
theorem dL_law__713 : decode cL_law_ 713 = .ok (.iconst 3, 1) := by decide +kernel
theorem dL_law__714 : decode cL_law_ 714 = .ok (.iadd, 1) := by decide +kernel
theorem dL_law__715 : decode cL_law_ 715 = .ok (.iaload, 1) := by decide +kernel
theorem dL_law__716 : decode cL_law_ 716 = .ok (.invokevirtual 183, 3) := by decide +kernel
theorem dL_law__719 : decode cL_law_ 719 = .ok (.istore 6, 2) := by decide +kernel
theorem dL_law__721 : decode cL_law_ 721 = .ok (.aload_n 2, 1) := by decide +kernel
theorem dL_law__722 : decode cL_law_ 722 = .ok (.invokevirtual 157, 3) := by decide +kernel
theorem dL_law__725 : decode cL_law_ 725 = .ok (.iload 5, 2) := by decide +kernel
theorem dL_law__727 : decode cL_law_ 727 = .ok (.if_icmp .eq 5, 3) := by decide +kernel
theorem dL_law__730 : decode cL_law_ 730 = .ok (.iconst 0, 1) := by decide +kernel
theorem dL_law__731 : decode cL_law_ 731 = .ok (.ireturn, 1) := by decide +kernel
theorem dL_law__732 : decode cL_law_ 732 = .ok (.iload 5, 2) := by decide +kernel
theorem dL_law__734 : decode cL_law_ 734 = .ok (.ifCond .ne 15, 3) := by decide +kernel
theorem dL_law__737 : decode cL_law_ 737 = .ok (.aload_n 3, 1) := by decide +kernel
theorem dL_law__738 : decode cL_law_ 738 = .ok (.iconst 0, 1) := by decide +kernel
theorem dL_law__739 : decode cL_law_ 739 = .ok (.laload, 1) := by decide +kernel
theorem dL_law__740 : decode cL_law_ 740 = .ok (.iload 6, 2) := by decide +kernel
theorem dL_law__742 : decode cL_law_ 742 = .ok (.i2l, 1) := by decide +kernel
theorem dL_law__743 : decode cL_law_ 743 = .ok (.lcmp, 1) := by decide +kernel
theorem dL_law__744 : decode cL_law_ 744 = .ok (.ifCond .eq 5, 3) := by decide +kernel
theorem dL_law__747 : decode cL_law_ 747 = .ok (.iconst 0, 1) := by decide +kernel
theorem dL_law__748 : decode cL_law_ 748 = .ok (.ireturn, 1) := by decide +kernel
theorem dL_law__749 : decode cL_law_ 749 = .ok (.goto 2586, 3) := by decide +kernel
theorem dL_law__752 : decode cL_law_ 752 = .ok (.aload_n 1, 1) := by decide +kernel
theorem dL_law__753 : decode cL_law_ 753 = .ok (.aload_n 0, 1) := by decide +kernel
theorem dL_law__754 : decode cL_law_ 754 = .ok (.iload 4, 2) := by decide +kernel
theorem dL_law__756 : decode cL_law_ 756 = .ok (.iconst 1, 1) := by decide +kernel
theorem dL_law__757 : decode cL_law_ 757 = .ok (.iadd, 1) := by decide +kernel
theorem dL_law__758 : decode cL_law_ 758 = .ok (.iaload, 1) := by decide +kernel
theorem dL_law__759 : decode cL_law_ 759 = .ok (.aload_n 3, 1) := by decide +kernel
theorem dL_law__760 : decode cL_law_ 760 = .ok (.invokestatic 184, 3) := by decide +kernel
theorem dL_law__763 : decode cL_law_ 763 = .ok (.istore 5, 2) := by decide +kernel
theorem dL_law__765 : decode cL_law_ 765 = .ok (.aload_n 2, 1) := by decide +kernel
theorem dL_law__766 : decode cL_law_ 766 = .ok (.aload_n 0, 1) := by decide +kernel
theorem dL_law__767 : decode cL_law_ 767 = .ok (.iload 4, 2) := by decide +kernel
theorem dL_law__769 : decode cL_law_ 769 = .ok (.iconst 1, 1) := by decide +kernel
theorem dL_law__770 : decode cL_law_ 770 = .ok (.iadd, 1) := by decide +kernel
theorem dL_law__771 : decode cL_law_ 771 = .ok (.iaload, 1) := by decide +kernel
theorem dL_law__772 : decode cL_law_ 772 = .ok (.invokevirtual 186, 3) := by decide +kernel
theorem dL_law__775 : decode cL_law_ 775 = .ok (.istore 6, 2) := by decide +kernel
theorem dL_law__777 : decode cL_law_ 777 = .ok (.aload_n 2, 1) := by decide +kernel
theorem dL_law__778 : decode cL_law_ 778 = .ok (.invokevirtual 157, 3) := by decide +kernel
theorem dL_law__781 : decode cL_law_ 781 = .ok (.iload 5, 2) := by decide +kernel
theorem dL_law__783 : decode cL_law_ 783 = .ok (.if_icmp .eq 5, 3) := by decide +kernel
theorem dL_law__786 : decode cL_law_ 786 = .ok (.iconst 0, 1) := by decide +kernel
theorem dL_law__787 : decode cL_law_ 787 = .ok (.ireturn, 1) := by decide +kernel
theorem dL_law__788 : decode cL_law_ 788 = .ok (.iload 5, 2) := by decide +kernel
theorem dL_law__790 : decode cL_law_ 790 = .ok (.ifCond .ne 15, 3) := by decide +kernel
theorem dL_law__793 : decode cL_law_ 793 = .ok (.aload_n 3, 1) := by decide +kernel
theorem dL_law__794 : decode cL_law_ 794 = .ok (.iconst 0, 1) := by decide +kernel
theorem dL_law__795 : decode cL_law_ 795 = .ok (.laload, 1) := by decide +kernel
theorem dL_law__796 : decode cL_law_ 796 = .ok (.iload 6, 2) := by decide +kernel
theorem dL_law__798 : decode cL_law_ 798 = .ok (.i2l, 1) := by decide +kernel
theorem dL_law__799 : decode cL_law_ 799 = .ok (.lcmp, 1) := by decide +kernel
theorem dL_law__800 : decode cL_law_ 800 = .ok (.ifCond .eq 5, 3) := by decide +kernel
theorem dL_law__803 : decode cL_law_ 803 = .ok (.iconst 0, 1) := by decide +kernel
theorem dL_law__804 : decode cL_law_ 804 = .ok (.ireturn, 1) := by decide +kernel
theorem dL_law__805 : decode cL_law_ 805 = .ok (.goto 2530, 3) := by decide +kernel
theorem dL_law__808 : decode cL_law_ 808 = .ok (.aload_n 1, 1) := by decide +kernel
theorem dL_law__809 : decode cL_law_ 809 = .ok (.aload_n 0, 1) := by decide +kernel
theorem dL_law__810 : decode cL_law_ 810 = .ok (.iload 4, 2) := by decide +kernel
theorem dL_law__812 : decode cL_law_ 812 = .ok (.iconst 1, 1) := by decide +kernel
theorem dL_law__813 : decode cL_law_ 813 = .ok (.iadd, 1) := by decide +kernel
theorem dL_law__814 : decode cL_law_ 814 = .ok (.iaload, 1) := by decide +kernel
theorem dL_law__815 : decode cL_law_ 815 = .ok (.aload_n 0, 1) := by decide +kernel
theorem dL_law__816 : decode cL_law_ 816 = .ok (.iload 4, 2) := by decide +kernel
theorem dL_law__818 : decode cL_law_ 818 = .ok (.iconst 2, 1) := by decide +kernel
theorem dL_law__819 : decode cL_law_ 819 = .ok (.iadd, 1) := by decide +kernel
theorem dL_law__820 : decode cL_law_ 820 = .ok (.iaload, 1) := by decide +kernel
theorem dL_law__821 : decode cL_law_ 821 = .ok (.aload_n 0, 1) := by decide +kernel
theorem dL_law__822 : decode cL_law_ 822 = .ok (.iload 4, 2) := by decide +kernel
theorem dL_law__824 : decode cL_law_ 824 = .ok (.iconst 3, 1) := by decide +kernel
theorem dL_law__825 : decode cL_law_ 825 = .ok (.iadd, 1) := by decide +kernel
theorem dL_law__826 : decode cL_law_ 826 = .ok (.iaload, 1) := by decide +kernel
theorem dL_law__827 : decode cL_law_ 827 = .ok (.aload_n 3, 1) := by decide +kernel
theorem dL_law__828 : decode cL_law_ 828 = .ok (.invokestatic 187, 3) := by decide +kernel
theorem dL_law__831 : decode cL_law_ 831 = .ok (.istore 5, 2) := by decide +kernel
theorem dL_law__833 : decode cL_law_ 833 = .ok (.aload_n 2, 1) := by decide +kernel
theorem dL_law__834 : decode cL_law_ 834 = .ok (.aload_n 0, 1) := by decide +kernel
theorem dL_law__835 : decode cL_law_ 835 = .ok (.iload 4, 2) := by decide +kernel
theorem dL_law__837 : decode cL_law_ 837 = .ok (.iconst 1, 1) := by decide +kernel
theorem dL_law__838 : decode cL_law_ 838 = .ok (.iadd, 1) := by decide +kernel
theorem dL_law__839 : decode cL_law_ 839 = .ok (.iaload, 1) := by decide +kernel
theorem dL_law__840 : decode cL_law_ 840 = .ok (.aload_n 0, 1) := by decide +kernel
theorem dL_law__841 : decode cL_law_ 841 = .ok (.iload 4, 2) := by decide +kernel
theorem dL_law__843 : decode cL_law_ 843 = .ok (.iconst 2, 1) := by decide +kernel
theorem dL_law__844 : decode cL_law_ 844 = .ok (.iadd, 1) := by decide +kernel
theorem dL_law__845 : decode cL_law_ 845 = .ok (.iaload, 1) := by decide +kernel
theorem dL_law__846 : decode cL_law_ 846 = .ok (.aload_n 0, 1) := by decide +kernel
theorem dL_law__847 : decode cL_law_ 847 = .ok (.iload 4, 2) := by decide +kernel
theorem dL_law__849 : decode cL_law_ 849 = .ok (.iconst 3, 1) := by decide +kernel
theorem dL_law__850 : decode cL_law_ 850 = .ok (.iadd, 1) := by decide +kernel
theorem dL_law__851 : decode cL_law_ 851 = .ok (.iaload, 1) := by decide +kernel
theorem dL_law__852 : decode cL_law_ 852 = .ok (.invokevirtual 190, 3) := by decide +kernel
theorem dL_law__855 : decode cL_law_ 855 = .ok (.istore 6, 2) := by decide +kernel
theorem dL_law__857 : decode cL_law_ 857 = .ok (.aload_n 2, 1) := by decide +kernel
theorem dL_law__858 : decode cL_law_ 858 = .ok (.invokevirtual 157, 3) := by decide +kernel
theorem dL_law__861 : decode cL_law_ 861 = .ok (.iload 5, 2) := by decide +kernel
theorem dL_law__863 : decode cL_law_ 863 = .ok (.if_icmp .eq 5, 3) := by decide +kernel
theorem dL_law__866 : decode cL_law_ 866 = .ok (.iconst 0, 1) := by decide +kernel
theorem dL_law__867 : decode cL_law_ 867 = .ok (.ireturn, 1) := by decide +kernel
theorem dL_law__868 : decode cL_law_ 868 = .ok (.iload 5, 2) := by decide +kernel
theorem dL_law__870 : decode cL_law_ 870 = .ok (.ifCond .ne 15, 3) := by decide +kernel
theorem dL_law__873 : decode cL_law_ 873 = .ok (.aload_n 3, 1) := by decide +kernel
theorem dL_law__874 : decode cL_law_ 874 = .ok (.iconst 0, 1) := by decide +kernel
theorem dL_law__875 : decode cL_law_ 875 = .ok (.laload, 1) := by decide +kernel
theorem dL_law__876 : decode cL_law_ 876 = .ok (.iload 6, 2) := by decide +kernel
theorem dL_law__878 : decode cL_law_ 878 = .ok (.i2l, 1) := by decide +kernel
theorem dL_law__879 : decode cL_law_ 879 = .ok (.lcmp, 1) := by decide +kernel
theorem dL_law__880 : decode cL_law_ 880 = .ok (.ifCond .eq 5, 3) := by decide +kernel

theorem dL_acts_659 : decode cL_acts 659 = .ok (.if_icmp .ne 7, 3) := by decide +kernel
theorem dL_acts_662 : decode cL_acts 662 = .ok (.iconst 1, 1) := by decide +kernel
theorem dL_acts_663 : decode cL_acts 663 = .ok (.goto 4, 3) := by decide +kernel
theorem dL_acts_666 : decode cL_acts 666 = .ok (.iconst 0, 1) := by decide +kernel
theorem dL_acts_667 : decode cL_acts 667 = .ok (.ireturn, 1) := by decide +kernel
theorem dL_acts_668 : decode cL_acts 668 = .ok (.iconst 0, 1) := by decide +kernel
theorem dL_acts_669 : decode cL_acts 669 = .ok (.istore 8, 2) := by decide +kernel
theorem dL_acts_671 : decode cL_acts 671 = .ok (.aload_n 1, 1) := by decide +kernel
theorem dL_acts_672 : decode cL_acts 672 = .ok (.bipush 7, 2) := by decide +kernel
theorem dL_acts_674 : decode cL_acts 674 = .ok (.iaload, 1) := by decide +kernel
theorem dL_acts_675 : decode cL_acts 675 = .ok (.iconst 1, 1) := by decide +kernel
theorem dL_acts_676 : decode cL_acts 676 = .ok (.isub, 1) := by decide +kernel
theorem dL_acts_677 : decode cL_acts 677 = .ok (.istore 9, 2) := by decide +kernel
theorem dL_acts_679 : decode cL_acts 679 = .ok (.iload 9, 2) := by decide +kernel
theorem dL_acts_681 : decode cL_acts 681 = .ok (.ifCond .lt 34, 3) := by decide +kernel
theorem dL_acts_684 : decode cL_acts 684 = .ok (.aload_n 3, 1) := by decide +kernel
theorem dL_acts_685 : decode cL_acts 685 = .ok (.iconst 2, 1) := by decide +kernel
theorem dL_acts_686 : decode cL_acts 686 = .ok (.iload 9, 2) := by decide +kernel
theorem dL_acts_688 : decode cL_acts 688 = .ok (.imul, 1) := by decide +kernel
theorem dL_acts_689 : decode cL_acts 689 = .ok (.iaload, 1) := by decide +kernel
theorem dL_acts_690 : decode cL_acts 690 = .ok (.aload_n 1, 1) := by decide +kernel
theorem dL_acts_691 : decode cL_acts 691 = .ok (.iconst 0, 1) := by decide +kernel
theorem dL_acts_692 : decode cL_acts 692 = .ok (.iaload, 1) := by decide +kernel
theorem dL_acts_693 : decode cL_acts 693 = .ok (.iload 7, 2) := by decide +kernel
theorem dL_acts_695 : decode cL_acts 695 = .ok (.iadd, 1) := by decide +kernel
theorem dL_acts_696 : decode cL_acts 696 = .ok (.if_icmp .ge 13, 3) := by decide +kernel
theorem dL_acts_699 : decode cL_acts 699 = .ok (.aload_n 1, 1) := by decide +kernel
theorem dL_acts_700 : decode cL_acts 700 = .ok (.aload_n 3, 1) := by decide +kernel
theorem dL_acts_701 : decode cL_acts 701 = .ok (.iload 9, 2) := by decide +kernel
theorem dL_acts_703 : decode cL_acts 703 = .ok (.invokestatic 73, 3) := by decide +kernel
theorem dL_acts_706 : decode cL_acts 706 = .ok (.iinc 8 1, 3) := by decide +kernel
theorem dL_acts_709 : decode cL_acts 709 = .ok (.iinc 9 (-1), 3) := by decide +kernel
theorem dL_acts_712 : decode cL_acts 712 = .ok (.goto (-33), 3) := by decide +kernel
theorem dL_acts_715 : decode cL_acts 715 = .ok (.aload_n 1, 1) := by decide +kernel
theorem dL_acts_716 : decode cL_acts 716 = .ok (.iconst 0, 1) := by decide +kernel
theorem dL_acts_717 : decode cL_acts 717 = .ok (.dup2, 1) := by decide +kernel
theorem dL_acts_718 : decode cL_acts 718 = .ok (.iaload, 1) := by decide +kernel
theorem dL_acts_719 : decode cL_acts 719 = .ok (.iload 7, 2) := by decide +kernel
theorem dL_acts_721 : decode cL_acts 721 = .ok (.iadd, 1) := by decide +kernel
theorem dL_acts_722 : decode cL_acts 722 = .ok (.iastore, 1) := by decide +kernel
theorem dL_acts_723 : decode cL_acts 723 = .ok (.aload_n 1, 1) := by decide +kernel
theorem dL_acts_724 : decode cL_acts 724 = .ok (.iconst 1, 1) := by decide +kernel
theorem dL_acts_725 : decode cL_acts 725 = .ok (.dup2, 1) := by decide +kernel
theorem dL_acts_726 : decode cL_acts 726 = .ok (.iaload, 1) := by decide +kernel
theorem dL_acts_727 : decode cL_acts 727 = .ok (.iload 8, 2) := by decide +kernel
theorem dL_acts_729 : decode cL_acts 729 = .ok (.aload_n 1, 1) := by decide +kernel
theorem dL_acts_730 : decode cL_acts 730 = .ok (.bipush 8, 2) := by decide +kernel
theorem dL_acts_732 : decode cL_acts 732 = .ok (.iaload, 1) := by decide +kernel
theorem dL_acts_733 : decode cL_acts 733 = .ok (.imul, 1) := by decide +kernel
theorem dL_acts_734 : decode cL_acts 734 = .ok (.aload_n 1, 1) := by decide +kernel
theorem dL_acts_735 : decode cL_acts 735 = .ok (.bipush 12, 2) := by decide +kernel
theorem dL_acts_737 : decode cL_acts 737 = .ok (.iaload, 1) := by decide +kernel
theorem dL_acts_738 : decode cL_acts 738 = .ok (.imul, 1) := by decide +kernel
theorem dL_acts_739 : decode cL_acts 739 = .ok (.isub, 1) := by decide +kernel
theorem dL_acts_740 : decode cL_acts 740 = .ok (.iastore, 1) := by decide +kernel
theorem dL_acts_741 : decode cL_acts 741 = .ok (.aload_n 1, 1) := by decide +kernel
theorem dL_acts_742 : decode cL_acts 742 = .ok (.iconst 3, 1) := by decide +kernel
theorem dL_acts_743 : decode cL_acts 743 = .ok (.dup2, 1) := by decide +kernel
theorem dL_acts_744 : decode cL_acts 744 = .ok (.iaload, 1) := by decide +kernel
theorem dL_acts_745 : decode cL_acts 745 = .ok (.iload 8, 2) := by decide +kernel
theorem dL_acts_747 : decode cL_acts 747 = .ok (.iadd, 1) := by decide +kernel
theorem dL_acts_748 : decode cL_acts 748 = .ok (.iastore, 1) := by decide +kernel
theorem dL_acts_749 : decode cL_acts 749 = .ok (.aload_n 0, 1) := by decide +kernel
theorem dL_acts_750 : decode cL_acts 750 = .ok (.iload 7, 2) := by decide +kernel
theorem dL_acts_752 : decode cL_acts 752 = .ok (.invokevirtual 85, 3) := by decide +kernel
theorem dL_acts_755 : decode cL_acts 755 = .ok (.iload 8, 2) := by decide +kernel
theorem dL_acts_757 : decode cL_acts 757 = .ok (.if_icmp .ne 7, 3) := by decide +kernel
theorem dL_acts_760 : decode cL_acts 760 = .ok (.iconst 1, 1) := by decide +kernel
theorem dL_acts_761 : decode cL_acts 761 = .ok (.goto 4, 3) := by decide +kernel
theorem dL_acts_764 : decode cL_acts 764 = .ok (.iconst 0, 1) := by decide +kernel
theorem dL_acts_765 : decode cL_acts 765 = .ok (.ireturn, 1) := by decide +kernel
theorem dL_acts_766 : decode cL_acts 766 = .ok (.iload 6, 2) := by decide +kernel
theorem dL_acts_768 : decode cL_acts 768 = .ok (.bipush 23, 2) := by decide +kernel
theorem dL_acts_770 : decode cL_acts 770 = .ok (.if_icmp .ne 59, 3) := by decide +kernel
theorem dL_acts_773 : decode cL_acts 773 = .ok (.iload 5, 2) := by decide +kernel
theorem dL_acts_775 : decode cL_acts 775 = .ok (.iconst 4, 1) := by decide +kernel
theorem dL_acts_776 : decode cL_acts 776 = .ok (.irem, 1) := by decide +kernel
theorem dL_acts_777 : decode cL_acts 777 = .ok (.istore 7, 2) := by decide +kernel
theorem dL_acts_779 : decode cL_acts 779 = .ok (.aload_n 1, 1) := by decide +kernel
theorem dL_acts_780 : decode cL_acts 780 = .ok (.bipush 13, 2) := by decide +kernel
theorem dL_acts_782 : decode cL_acts 782 = .ok (.iload 7, 2) := by decide +kernel
theorem dL_acts_784 : decode cL_acts 784 = .ok (.iadd, 1) := by decide +kernel
theorem dL_acts_785 : decode cL_acts 785 = .ok (.iaload, 1) := by decide +kernel
theorem dL_acts_786 : decode cL_acts 786 = .ok (.istore 8, 2) := by decide +kernel
theorem dL_acts_788 : decode cL_acts 788 = .ok (.aload_n 1, 1) := by decide +kernel
theorem dL_acts_789 : decode cL_acts 789 = .ok (.bipush 13, 2) := by decide +kernel
theorem dL_acts_791 : decode cL_acts 791 = .ok (.iload 7, 2) := by decide +kernel
theorem dL_acts_793 : decode cL_acts 793 = .ok (.iadd, 1) := by decide +kernel
theorem dL_acts_794 : decode cL_acts 794 = .ok (.iconst 1, 1) := by decide +kernel
theorem dL_acts_795 : decode cL_acts 795 = .ok (.iload 5, 2) := by decide +kernel
theorem dL_acts_797 : decode cL_acts 797 = .ok (.iconst 4, 1) := by decide +kernel
theorem dL_acts_798 : decode cL_acts 798 = .ok (.idiv, 1) := by decide +kernel
theorem dL_acts_799 : decode cL_acts 799 = .ok (.sipush 400, 3) := by decide +kernel
theorem dL_acts_802 : decode cL_acts 802 = .ok (.irem, 1) := by decide +kernel
theorem dL_acts_803 : decode cL_acts 803 = .ok (.iadd, 1) := by decide +kernel
theorem dL_acts_804 : decode cL_acts 804 = .ok (.iastore, 1) := by decide +kernel
theorem dL_acts_805 : decode cL_acts 805 = .ok (.aload_n 0, 1) := by decide +kernel
theorem dL_acts_806 : decode cL_acts 806 = .ok (.iload 7, 2) := by decide +kernel
theorem dL_acts_808 : decode cL_acts 808 = .ok (.aload_n 1, 1) := by decide +kernel
theorem dL_acts_809 : decode cL_acts 809 = .ok (.bipush 13, 2) := by decide +kernel
theorem dL_acts_811 : decode cL_acts 811 = .ok (.iload 7, 2) := by decide +kernel
theorem dL_acts_813 : decode cL_acts 813 = .ok (.iadd, 1) := by decide +kernel
theorem dL_acts_814 : decode cL_acts 814 = .ok (.iaload, 1) := by decide +kernel
theorem dL_acts_815 : decode cL_acts 815 = .ok (.invokevirtual 88, 3) := by decide +kernel
theorem dL_acts_818 : decode cL_acts 818 = .ok (.iload 8, 2) := by decide +kernel
theorem dL_acts_820 : decode cL_acts 820 = .ok (.if_icmp .ne 7, 3) := by decide +kernel
theorem dL_acts_823 : decode cL_acts 823 = .ok (.iconst 1, 1) := by decide +kernel
theorem dL_acts_824 : decode cL_acts 824 = .ok (.goto 4, 3) := by decide +kernel
theorem dL_acts_827 : decode cL_acts 827 = .ok (.iconst 0, 1) := by decide +kernel
theorem dL_acts_828 : decode cL_acts 828 = .ok (.ireturn, 1) := by decide +kernel
theorem dL_acts_829 : decode cL_acts 829 = .ok (.iload 5, 2) := by decide +kernel
theorem dL_acts_831 : decode cL_acts 831 = .ok (.iconst 5, 1) := by decide +kernel
theorem dL_acts_832 : decode cL_acts 832 = .ok (.irem, 1) := by decide +kernel
theorem dL_acts_833 : decode cL_acts 833 = .ok (.istore 7, 2) := by decide +kernel
theorem dL_acts_835 : decode cL_acts 835 = .ok (.iload 7, 2) := by decide +kernel
theorem dL_acts_837 : decode cL_acts 837 = .ok (.ifCond .ne 16, 3) := by decide +kernel
theorem dL_acts_840 : decode cL_acts 840 = .ok (.iconst 1, 1) := by decide +kernel
theorem dL_acts_841 : decode cL_acts 841 = .ok (.iload 5, 2) := by decide +kernel
theorem dL_acts_843 : decode cL_acts 843 = .ok (.iconst 5, 1) := by decide +kernel
theorem dL_acts_844 : decode cL_acts 844 = .ok (.idiv, 1) := by decide +kernel
theorem dL_acts_845 : decode cL_acts 845 = .ok (.sipush 250, 3) := by decide +kernel
theorem dL_acts_848 : decode cL_acts 848 = .ok (.irem, 1) := by decide +kernel
theorem dL_acts_849 : decode cL_acts 849 = .ok (.iadd, 1) := by decide +kernel
theorem dL_acts_850 : decode cL_acts 850 = .ok (.goto 46, 3) := by decide +kernel
theorem dL_acts_853 : decode cL_acts 853 = .ok (.iload 7, 2) := by decide +kernel
theorem dL_acts_855 : decode cL_acts 855 = .ok (.iconst 1, 1) := by decide +kernel
theorem dL_acts_856 : decode cL_acts 856 = .ok (.if_icmp .ne 16, 3) := by decide +kernel
theorem dL_acts_859 : decode cL_acts 859 = .ok (.iconst 1, 1) := by decide +kernel
theorem dL_acts_860 : decode cL_acts 860 = .ok (.iload 5, 2) := by decide +kernel
theorem dL_acts_862 : decode cL_acts 862 = .ok (.iconst 5, 1) := by decide +kernel
theorem dL_acts_863 : decode cL_acts 863 = .ok (.idiv, 1) := by decide +kernel
theorem dL_acts_864 : decode cL_acts 864 = .ok (.sipush 4095, 3) := by decide +kernel
theorem dL_acts_867 : decode cL_acts 867 = .ok (.irem, 1) := by decide +kernel
theorem dL_acts_868 : decode cL_acts 868 = .ok (.iadd, 1) := by decide +kernel
theorem dL_acts_869 : decode cL_acts 869 = .ok (.goto 27, 3) := by decide +kernel
theorem dL_acts_872 : decode cL_acts 872 = .ok (.iload 7, 2) := by decide +kernel
theorem dL_acts_874 : decode cL_acts 874 = .ok (.iconst 4, 1) := by decide +kernel
theorem dL_acts_875 : decode cL_acts 875 = .ok (.if_icmp .ne 14, 3) := by decide +kernel
theorem dL_acts_878 : decode cL_acts 878 = .ok (.iload 5, 2) := by decide +kernel
theorem dL_acts_880 : decode cL_acts 880 = .ok (.iconst 5, 1) := by decide +kernel
theorem dL_acts_881 : decode cL_acts 881 = .ok (.idiv, 1) := by decide +kernel
theorem dL_acts_882 : decode cL_acts 882 = .ok (.sipush 1000, 3) := by decide +kernel
theorem dL_acts_885 : decode cL_acts 885 = .ok (.irem, 1) := by decide +kernel
theorem dL_acts_886 : decode cL_acts 886 = .ok (.goto 10, 3) := by decide +kernel
theorem dL_acts_889 : decode cL_acts 889 = .ok (.iload 5, 2) := by decide +kernel
theorem dL_acts_891 : decode cL_acts 891 = .ok (.iconst 5, 1) := by decide +kernel
theorem dL_acts_892 : decode cL_acts 892 = .ok (.idiv, 1) := by decide +kernel
theorem dL_acts_893 : decode cL_acts 893 = .ok (.bipush 51, 2) := by decide +kernel
theorem dL_acts_895 : decode cL_acts 895 = .ok (.irem, 1) := by decide +kernel
theorem dL_acts_896 : decode cL_acts 896 = .ok (.istore 8, 2) := by decide +kernel
theorem dL_acts_898 : decode cL_acts 898 = .ok (.iload 7, 2) := by decide +kernel
theorem dL_acts_900 : decode cL_acts 900 = .ok (.ifCond .ne 28, 3) := by decide +kernel
theorem dL_acts_903 : decode cL_acts 903 = .ok (.aload_n 1, 1) := by decide +kernel
theorem dL_acts_904 : decode cL_acts 904 = .ok (.bipush 7, 2) := by decide +kernel
theorem dL_acts_906 : decode cL_acts 906 = .ok (.iaload, 1) := by decide +kernel
theorem dL_acts_907 : decode cL_acts 907 = .ok (.ifCond .le 21, 3) := by decide +kernel
theorem dL_acts_910 : decode cL_acts 910 = .ok (.aload_n 0, 1) := by decide +kernel
theorem dL_acts_911 : decode cL_acts 911 = .ok (.iconst 0, 1) := by decide +kernel
theorem dL_acts_912 : decode cL_acts 912 = .ok (.iload 8, 2) := by decide +kernel
theorem dL_acts_914 : decode cL_acts 914 = .ok (.invokevirtual 91, 3) := by decide +kernel
theorem dL_acts_917 : decode cL_acts 917 = .ok (.ldc 51, 2) := by decide +kernel
theorem dL_acts_919 : decode cL_acts 919 = .ok (.if_icmp .ne 7, 3) := by decide +kernel
theorem dL_acts_922 : decode cL_acts 922 = .ok (.iconst 1, 1) := by decide +kernel
theorem dL_acts_923 : decode cL_acts 923 = .ok (.goto 4, 3) := by decide +kernel
theorem dL_acts_926 : decode cL_acts 926 = .ok (.iconst 0, 1) := by decide +kernel
theorem dL_acts_927 : decode cL_acts 927 = .ok (.ireturn, 1) := by decide +kernel
theorem dL_acts_928 : decode cL_acts 928 = .ok (.aload_n 1, 1) := by decide +kernel
theorem dL_acts_929 : decode cL_acts 929 = .ok (.bipush 8, 2) := by decide +kernel
theorem dL_acts_931 : decode cL_acts 931 = .ok (.iload 7, 2) := by decide +kernel
theorem dL_acts_933 : decode cL_acts 933 = .ok (.iadd, 1) := by decide +kernel
theorem dL_acts_934 : decode cL_acts 934 = .ok (.iaload, 1) := by decide +kernel
theorem dL_acts_935 : decode cL_acts 935 = .ok (.istore 9, 2) := by decide +kernel
theorem dL_acts_937 : decode cL_acts 937 = .ok (.aload_n 1, 1) := by decide +kernel
theorem dL_acts_938 : decode cL_acts 938 = .ok (.bipush 8, 2) := by decide +kernel
theorem dL_acts_940 : decode cL_acts 940 = .ok (.iload 7, 2) := by decide +kernel
theorem dL_acts_942 : decode cL_acts 942 = .ok (.iadd, 1) := by decide +kernel
theorem dL_acts_943 : decode cL_acts 943 = .ok (.iload 8, 2) := by decide +kernel
theorem dL_acts_945 : decode cL_acts 945 = .ok (.iastore, 1) := by decide +kernel
theorem dL_acts_946 : decode cL_acts 946 = .ok (.aload_n 0, 1) := by decide +kernel
theorem dL_acts_947 : decode cL_acts 947 = .ok (.iload 7, 2) := by decide +kernel
theorem dL_acts_949 : decode cL_acts 949 = .ok (.iload 8, 2) := by decide +kernel
theorem dL_acts_951 : decode cL_acts 951 = .ok (.invokevirtual 91, 3) := by decide +kernel
theorem dL_acts_954 : decode cL_acts 954 = .ok (.iload 9, 2) := by decide +kernel
theorem dL_acts_956 : decode cL_acts 956 = .ok (.if_icmp .ne 7, 3) := by decide +kernel
theorem dL_acts_959 : decode cL_acts 959 = .ok (.iconst 1, 1) := by decide +kernel
theorem dL_acts_960 : decode cL_acts 960 = .ok (.goto 4, 3) := by decide +kernel
theorem dL_acts_963 : decode cL_acts 963 = .ok (.iconst 0, 1) := by decide +kernel
theorem dL_acts_964 : decode cL_acts 964 = .ok (.ireturn, 1) := by decide +kernel

theorem dL_plays_572 : decode cL_plays 572 = .ok (.iconst 1, 1) := by decide +kernel
theorem dL_plays_573 : decode cL_plays 573 = .ok (.iadd, 1) := by decide +kernel
theorem dL_plays_574 : decode cL_plays 574 = .ok (.iastore, 1) := by decide +kernel
theorem dL_plays_575 : decode cL_plays 575 = .ok (.iload 12, 2) := by decide +kernel
theorem dL_plays_577 : decode cL_plays 577 = .ok (.aload_n 3, 1) := by decide +kernel
theorem dL_plays_578 : decode cL_plays 578 = .ok (.iconst 5, 1) := by decide +kernel
theorem dL_plays_579 : decode cL_plays 579 = .ok (.iaload, 1) := by decide +kernel
theorem dL_plays_580 : decode cL_plays 580 = .ok (.ifCond .le 53, 3) := by decide +kernel
theorem dL_plays_583 : decode cL_plays 583 = .ok (.aload 5, 2) := by decide +kernel
theorem dL_plays_585 : decode cL_plays 585 = .ok (.bipush 8, 2) := by decide +kernel
theorem dL_plays_587 : decode cL_plays 587 = .ok (.aload_n 3, 1) := by decide +kernel
theorem dL_plays_588 : decode cL_plays 588 = .ok (.iconst 5, 1) := by decide +kernel
theorem dL_plays_589 : decode cL_plays 589 = .ok (.iaload, 1) := by decide +kernel
theorem dL_plays_590 : decode cL_plays 590 = .ok (.iadd, 1) := by decide +kernel
theorem dL_plays_591 : decode cL_plays 591 = .ok (.iconst 1, 1) := by decide +kernel
theorem dL_plays_592 : decode cL_plays 592 = .ok (.isub, 1) := by decide +kernel
theorem dL_plays_593 : decode cL_plays 593 = .ok (.iaload, 1) := by decide +kernel
theorem dL_plays_594 : decode cL_plays 594 = .ok (.ifCond .le 39, 3) := by decide +kernel
theorem dL_plays_597 : decode cL_plays 597 = .ok (.aload_n 3, 1) := by decide +kernel
theorem dL_plays_598 : decode cL_plays 598 = .ok (.bipush 7, 2) := by decide +kernel
theorem dL_plays_600 : decode cL_plays 600 = .ok (.iaload, 1) := by decide +kernel
theorem dL_plays_601 : decode cL_plays 601 = .ok (.aload_n 3, 1) := by decide +kernel
theorem dL_plays_602 : decode cL_plays 602 = .ok (.bipush 6, 2) := by decide +kernel
theorem dL_plays_604 : decode cL_plays 604 = .ok (.iaload, 1) := by decide +kernel
theorem dL_plays_605 : decode cL_plays 605 = .ok (.isub, 1) := by decide +kernel
theorem dL_plays_606 : decode cL_plays 606 = .ok (.aload 5, 2) := by decide +kernel
theorem dL_plays_608 : decode cL_plays 608 = .ok (.bipush 8, 2) := by decide +kernel
theorem dL_plays_610 : decode cL_plays 610 = .ok (.aload_n 3, 1) := by decide +kernel
theorem dL_plays_611 : decode cL_plays 611 = .ok (.iconst 5, 1) := by decide +kernel
theorem dL_plays_612 : decode cL_plays 612 = .ok (.iaload, 1) := by decide +kernel
theorem dL_plays_613 : decode cL_plays 613 = .ok (.iadd, 1) := by decide +kernel
theorem dL_plays_614 : decode cL_plays 614 = .ok (.iconst 1, 1) := by decide +kernel
theorem dL_plays_615 : decode cL_plays 615 = .ok (.isub, 1) := by decide +kernel
theorem dL_plays_616 : decode cL_plays 616 = .ok (.iaload, 1) := by decide +kernel
theorem dL_plays_617 : decode cL_plays 617 = .ok (.if_icmp .ne 16, 3) := by decide +kernel
theorem dL_plays_620 : decode cL_plays 620 = .ok (.aload_n 3, 1) := by decide +kernel
theorem dL_plays_621 : decode cL_plays 621 = .ok (.aload 5, 2) := by decide +kernel
theorem dL_plays_623 : decode cL_plays 623 = .ok (.aload 6, 2) := by decide +kernel
theorem dL_plays_625 : decode cL_plays 625 = .ok (.aload 7, 2) := by decide +kernel
theorem dL_plays_627 : decode cL_plays 627 = .ok (.invokestatic 125, 3) := by decide +kernel
theorem dL_plays_630 : decode cL_plays 630 = .ok (.goto 4, 3) := by decide +kernel
theorem dL_plays_633 : decode cL_plays 633 = .ok (.iconst 0, 1) := by decide +kernel
theorem dL_plays_634 : decode cL_plays 634 = .ok (.iadd, 1) := by decide +kernel
theorem dL_plays_635 : decode cL_plays 635 = .ok (.istore 12, 2) := by decide +kernel
theorem dL_plays_637 : decode cL_plays 637 = .ok (.iconst 0, 1) := by decide +kernel
theorem dL_plays_638 : decode cL_plays 638 = .ok (.istore 14, 2) := by decide +kernel
theorem dL_plays_640 : decode cL_plays 640 = .ok (.iload 14, 2) := by decide +kernel
theorem dL_plays_642 : decode cL_plays 642 = .ok (.aload_n 3, 1) := by decide +kernel
theorem dL_plays_643 : decode cL_plays 643 = .ok (.iconst 3, 1) := by decide +kernel
theorem dL_plays_644 : decode cL_plays 644 = .ok (.iaload, 1) := by decide +kernel
theorem dL_plays_645 : decode cL_plays 645 = .ok (.if_icmp .ge 40, 3) := by decide +kernel
theorem dL_plays_648 : decode cL_plays 648 = .ok (.aload 4, 2) := by decide +kernel
theorem dL_plays_650 : decode cL_plays 650 = .ok (.bipush 35, 2) := by decide +kernel
theorem dL_plays_652 : decode cL_plays 652 = .ok (.iload 14, 2) := by decide +kernel
theorem dL_plays_654 : decode cL_plays 654 = .ok (.iadd, 1) := by decide +kernel
theorem dL_plays_655 : decode cL_plays 655 = .ok (.dup2, 1) := by decide +kernel
theorem dL_plays_656 : decode cL_plays 656 = .ok (.iaload, 1) := by decide +kernel
theorem dL_plays_657 : decode cL_plays 657 = .ok (.aload_n 3, 1) := by decide +kernel
theorem dL_plays_658 : decode cL_plays 658 = .ok (.aload 4, 2) := by decide +kernel
theorem dL_plays_660 : decode cL_plays 660 = .ok (.aload 7, 2) := by decide +kernel
theorem dL_plays_662 : decode cL_plays 662 = .ok (.iload 14, 2) := by decide +kernel
theorem dL_plays_664 : decode cL_plays 664 = .ok (.invokestatic 133, 3) := by decide +kernel
theorem dL_plays_667 : decode cL_plays 667 = .ok (.bipush 80, 2) := by decide +kernel
theorem dL_plays_669 : decode cL_plays 669 = .ok (.if_icmp .le 7, 3) := by decide +kernel
theorem dL_plays_672 : decode cL_plays 672 = .ok (.iconst 1, 1) := by decide +kernel
theorem dL_plays_673 : decode cL_plays 673 = .ok (.goto 4, 3) := by decide +kernel
theorem dL_plays_676 : decode cL_plays 676 = .ok (.iconst 0, 1) := by decide +kernel
theorem dL_plays_677 : decode cL_plays 677 = .ok (.iadd, 1) := by decide +kernel
theorem dL_plays_678 : decode cL_plays 678 = .ok (.iastore, 1) := by decide +kernel
theorem dL_plays_679 : decode cL_plays 679 = .ok (.iinc 14 1, 3) := by decide +kernel
theorem dL_plays_682 : decode cL_plays 682 = .ok (.goto (-42), 3) := by decide +kernel
theorem dL_plays_685 : decode cL_plays 685 = .ok (.iinc 13 1, 3) := by decide +kernel
theorem dL_plays_688 : decode cL_plays 688 = .ok (.goto (-133), 3) := by decide +kernel
theorem dL_plays_691 : decode cL_plays 691 = .ok (.aload_n 0, 1) := by decide +kernel
theorem dL_plays_692 : decode cL_plays 692 = .ok (.iconst 0, 1) := by decide +kernel
theorem dL_plays_693 : decode cL_plays 693 = .ok (.iload 10, 2) := by decide +kernel
theorem dL_plays_695 : decode cL_plays 695 = .ok (.invokestatic 136, 3) := by decide +kernel
theorem dL_plays_698 : decode cL_plays 698 = .ok (.iload 11, 2) := by decide +kernel
theorem dL_plays_700 : decode cL_plays 700 = .ok (.ifCond .eq 8, 3) := by decide +kernel
theorem dL_plays_703 : decode cL_plays 703 = .ok (.iload 12, 2) := by decide +kernel
theorem dL_plays_705 : decode cL_plays 705 = .ok (.goto 5, 3) := by decide +kernel
theorem dL_plays_708 : decode cL_plays 708 = .ok (.bipush (-101), 2) := by decide +kernel
theorem dL_plays_710 : decode cL_plays 710 = .ok (.if_icmp .ne 7, 3) := by decide +kernel
theorem dL_plays_713 : decode cL_plays 713 = .ok (.iconst 1, 1) := by decide +kernel
theorem dL_plays_714 : decode cL_plays 714 = .ok (.goto 4, 3) := by decide +kernel
theorem dL_plays_717 : decode cL_plays 717 = .ok (.iconst 0, 1) := by decide +kernel
theorem dL_plays_718 : decode cL_plays 718 = .ok (.ireturn, 1) := by decide +kernel
theorem dL_plays_719 : decode cL_plays 719 = .ok (.iload_n 1, 1) := by decide +kernel
theorem dL_plays_720 : decode cL_plays 720 = .ok (.iconst 4, 1) := by decide +kernel
theorem dL_plays_721 : decode cL_plays 721 = .ok (.if_icmp .ne 27, 3) := by decide +kernel
theorem dL_plays_724 : decode cL_plays 724 = .ok (.aload_n 3, 1) := by decide +kernel
theorem dL_plays_725 : decode cL_plays 725 = .ok (.iconst 5, 1) := by decide +kernel
theorem dL_plays_726 : decode cL_plays 726 = .ok (.iaload, 1) := by decide +kernel
theorem dL_plays_727 : decode cL_plays 727 = .ok (.istore 10, 2) := by decide +kernel
theorem dL_plays_729 : decode cL_plays 729 = .ok (.aload_n 3, 1) := by decide +kernel
theorem dL_plays_730 : decode cL_plays 730 = .ok (.iconst 5, 1) := by decide +kernel
theorem dL_plays_731 : decode cL_plays 731 = .ok (.iconst 0, 1) := by decide +kernel
theorem dL_plays_732 : decode cL_plays 732 = .ok (.iastore, 1) := by decide +kernel
theorem dL_plays_733 : decode cL_plays 733 = .ok (.aload_n 0, 1) := by decide +kernel
theorem dL_plays_734 : decode cL_plays 734 = .ok (.invokevirtual 140, 3) := by decide +kernel
theorem dL_plays_737 : decode cL_plays 737 = .ok (.iload 10, 2) := by decide +kernel
theorem dL_plays_739 : decode cL_plays 739 = .ok (.if_icmp .ne 7, 3) := by decide +kernel
theorem dL_plays_742 : decode cL_plays 742 = .ok (.iconst 1, 1) := by decide +kernel
theorem dL_plays_743 : decode cL_plays 743 = .ok (.goto 4, 3) := by decide +kernel
theorem dL_plays_746 : decode cL_plays 746 = .ok (.iconst 0, 1) := by decide +kernel
theorem dL_plays_747 : decode cL_plays 747 = .ok (.ireturn, 1) := by decide +kernel
theorem dL_plays_748 : decode cL_plays 748 = .ok (.iload_n 1, 1) := by decide +kernel
theorem dL_plays_749 : decode cL_plays 749 = .ok (.iconst 5, 1) := by decide +kernel
theorem dL_plays_750 : decode cL_plays 750 = .ok (.if_icmp .ne 64, 3) := by decide +kernel
theorem dL_plays_753 : decode cL_plays 753 = .ok (.iload 9, 2) := by decide +kernel
theorem dL_plays_755 : decode cL_plays 755 = .ok (.ifCond .eq 21, 3) := by decide +kernel
theorem dL_plays_758 : decode cL_plays 758 = .ok (.aload 4, 2) := by decide +kernel
theorem dL_plays_760 : decode cL_plays 760 = .ok (.bipush 30, 2) := by decide +kernel
theorem dL_plays_762 : decode cL_plays 762 = .ok (.iload 8, 2) := by decide +kernel
theorem dL_plays_764 : decode cL_plays 764 = .ok (.iadd, 1) := by decide +kernel
theorem dL_plays_765 : decode cL_plays 765 = .ok (.iconst 1, 1) := by decide +kernel
theorem dL_plays_766 : decode cL_plays 766 = .ok (.aload 4, 2) := by decide +kernel
theorem dL_plays_768 : decode cL_plays 768 = .ok (.bipush 30, 2) := by decide +kernel
theorem dL_plays_770 : decode cL_plays 770 = .ok (.iload 8, 2) := by decide +kernel
theorem dL_plays_772 : decode cL_plays 772 = .ok (.iadd, 1) := by decide +kernel
theorem dL_plays_773 : decode cL_plays 773 = .ok (.iaload, 1) := by decide +kernel
theorem dL_plays_774 : decode cL_plays 774 = .ok (.isub, 1) := by decide +kernel
theorem dL_plays_775 : decode cL_plays 775 = .ok (.iastore, 1) := by decide +kernel
theorem dL_plays_776 : decode cL_plays 776 = .ok (.aload_n 0, 1) := by decide +kernel
theorem dL_plays_777 : decode cL_plays 777 = .ok (.bipush 8, 2) := by decide +kernel
theorem dL_plays_779 : decode cL_plays 779 = .ok (.iload 8, 2) := by decide +kernel
theorem dL_plays_781 : decode cL_plays 781 = .ok (.iconst 0, 1) := by decide +kernel
theorem dL_plays_782 : decode cL_plays 782 = .ok (.invokestatic 112, 3) := by decide +kernel
theorem dL_plays_785 : decode cL_plays 785 = .ok (.iload 9, 2) := by decide +kernel
theorem dL_plays_787 : decode cL_plays 787 = .ok (.ifCond .eq 16, 3) := by decide +kernel
theorem dL_plays_790 : decode cL_plays 790 = .ok (.iconst 1, 1) := by decide +kernel
theorem dL_plays_791 : decode cL_plays 791 = .ok (.aload 4, 2) := by decide +kernel
theorem dL_plays_793 : decode cL_plays 793 = .ok (.bipush 30, 2) := by decide +kernel
theorem dL_plays_795 : decode cL_plays 795 = .ok (.iload 8, 2) := by decide +kernel
theorem dL_plays_797 : decode cL_plays 797 = .ok (.iadd, 1) := by decide +kernel
theorem dL_plays_798 : decode cL_plays 798 = .ok (.iaload, 1) := by decide +kernel
theorem dL_plays_799 : decode cL_plays 799 = .ok (.isub, 1) := by decide +kernel
theorem dL_plays_800 : decode cL_plays 800 = .ok (.goto 5, 3) := by decide +kernel
theorem dL_plays_803 : decode cL_plays 803 = .ok (.bipush (-101), 2) := by decide +kernel
theorem dL_plays_805 : decode cL_plays 805 = .ok (.if_icmp .ne 7, 3) := by decide +kernel
theorem dL_plays_808 : decode cL_plays 808 = .ok (.iconst 1, 1) := by decide +kernel
theorem dL_plays_809 : decode cL_plays 809 = .ok (.goto 4, 3) := by decide +kernel
theorem dL_plays_812 : decode cL_plays 812 = .ok (.iconst 0, 1) := by decide +kernel
theorem dL_plays_813 : decode cL_plays 813 = .ok (.ireturn, 1) := by decide +kernel
theorem dL_plays_814 : decode cL_plays 814 = .ok (.iload_n 1, 1) := by decide +kernel
theorem dL_plays_815 : decode cL_plays 815 = .ok (.bipush 6, 2) := by decide +kernel
theorem dL_plays_817 : decode cL_plays 817 = .ok (.if_icmp .ne 177, 3) := by decide +kernel
theorem dL_plays_820 : decode cL_plays 820 = .ok (.iload_n 2, 1) := by decide +kernel
theorem dL_plays_821 : decode cL_plays 821 = .ok (.iconst 3, 1) := by decide +kernel
theorem dL_plays_822 : decode cL_plays 822 = .ok (.ishr, 1) := by decide +kernel
theorem dL_plays_823 : decode cL_plays 823 = .ok (.aload_n 3, 1) := by decide +kernel
theorem dL_plays_824 : decode cL_plays 824 = .ok (.iconst 3, 1) := by decide +kernel
theorem dL_plays_825 : decode cL_plays 825 = .ok (.iaload, 1) := by decide +kernel
theorem dL_plays_826 : decode cL_plays 826 = .ok (.iconst 1, 1) := by decide +kernel
theorem dL_plays_827 : decode cL_plays 827 = .ok (.iadd, 1) := by decide +kernel
theorem dL_plays_828 : decode cL_plays 828 = .ok (.invokestatic 98, 3) := by decide +kernel
theorem dL_plays_831 : decode cL_plays 831 = .ok (.istore 10, 2) := by decide +kernel
theorem dL_plays_833 : decode cL_plays 833 = .ok (.iload 9, 2) := by decide +kernel
theorem dL_plays_835 : decode cL_plays 835 = .ok (.ifCond .eq 15, 3) := by decide +kernel
theorem dL_plays_838 : decode cL_plays 838 = .ok (.iload 10, 2) := by decide +kernel
theorem dL_plays_840 : decode cL_plays 840 = .ok (.aload_n 3, 1) := by decide +kernel
theorem dL_plays_841 : decode cL_plays 841 = .ok (.iconst 3, 1) := by decide +kernel
theorem dL_plays_842 : decode cL_plays 842 = .ok (.iaload, 1) := by decide +kernel
theorem dL_plays_843 : decode cL_plays 843 = .ok (.if_icmp .ge 7, 3) := by decide +kernel
theorem dL_plays_846 : decode cL_plays 846 = .ok (.iconst 1, 1) := by decide +kernel
theorem dL_plays_847 : decode cL_plays 847 = .ok (.goto 4, 3) := by decide +kernel
theorem dL_plays_850 : decode cL_plays 850 = .ok (.iconst 0, 1) := by decide +kernel
theorem dL_plays_851 : decode cL_plays 851 = .ok (.istore 9, 2) := by decide +kernel
theorem dL_plays_853 : decode cL_plays 853 = .ok (.iload 9, 2) := by decide +kernel
theorem dL_plays_855 : decode cL_plays 855 = .ok (.ifCond .ne 8, 3) := by decide +kernel
theorem dL_plays_858 : decode cL_plays 858 = .ok (.bipush (-101), 2) := by decide +kernel
theorem dL_plays_860 : decode cL_plays 860 = .ok (.goto 44, 3) := by decide +kernel
theorem dL_plays_863 : decode cL_plays 863 = .ok (.iload 8, 2) := by decide +kernel
theorem dL_plays_865 : decode cL_plays 865 = .ok (.iload 10, 2) := by decide +kernel
theorem dL_plays_867 : decode cL_plays 867 = .ok (.if_icmp .ne 8, 3) := by decide +kernel
theorem dL_plays_870 : decode cL_plays 870 = .ok (.bipush (-102), 2) := by decide +kernel
theorem dL_plays_872 : decode cL_plays 872 = .ok (.goto 32, 3) := by decide +kernel
theorem dL_plays_875 : decode cL_plays 875 = .ok (.aload 4, 2) := by decide +kernel
theorem dL_plays_877 : decode cL_plays 877 = .ok (.bipush 30, 2) := by decide +kernel
theorem dL_plays_879 : decode cL_plays 879 = .ok (.iload 8, 2) := by decide +kernel
theorem dL_plays_881 : decode cL_plays 881 = .ok (.iadd, 1) := by decide +kernel
theorem dL_plays_882 : decode cL_plays 882 = .ok (.iaload, 1) := by decide +kernel
theorem dL_plays_883 : decode cL_plays 883 = .ok (.ifCond .eq 15, 3) := by decide +kernel
theorem dL_plays_886 : decode cL_plays 886 = .ok (.aload 4, 2) := by decide +kernel
theorem dL_plays_888 : decode cL_plays 888 = .ok (.bipush 30, 2) := by decide +kernel
theorem dL_plays_890 : decode cL_plays 890 = .ok (.iload 10, 2) := by decide +kernel
theorem dL_plays_892 : decode cL_plays 892 = .ok (.iadd, 1) := by decide +kernel
theorem dL_plays_893 : decode cL_plays 893 = .ok (.iaload, 1) := by decide +kernel
theorem dL_plays_894 : decode cL_plays 894 = .ok (.iconst 1, 1) := by decide +kernel
theorem dL_plays_895 : decode cL_plays 895 = .ok (.if_icmp .ne 8, 3) := by decide +kernel
theorem dL_plays_898 : decode cL_plays 898 = .ok (.bipush (-103), 2) := by decide +kernel
theorem dL_plays_900 : decode cL_plays 900 = .ok (.goto 4, 3) := by decide +kernel
theorem dL_plays_903 : decode cL_plays 903 = .ok (.iconst 0, 1) := by decide +kernel
theorem dL_plays_904 : decode cL_plays 904 = .ok (.istore 11, 2) := by decide +kernel
theorem dL_plays_906 : decode cL_plays 906 = .ok (.iconst 0, 1) := by decide +kernel
theorem dL_plays_907 : decode cL_plays 907 = .ok (.istore 12, 2) := by decide +kernel
theorem dL_plays_909 : decode cL_plays 909 = .ok (.iload 12, 2) := by decide +kernel
theorem dL_plays_911 : decode cL_plays 911 = .ok (.iconst 4, 1) := by decide +kernel
theorem dL_plays_912 : decode cL_plays 912 = .ok (.if_icmp .ge 61, 3) := by decide +kernel
theorem dL_plays_915 : decode cL_plays 915 = .ok (.iload 11, 2) := by decide +kernel
theorem dL_plays_917 : decode cL_plays 917 = .ok (.ifCond .lt 56, 3) := by decide +kernel
theorem dL_plays_920 : decode cL_plays 920 = .ok (.aload 6, 2) := by decide +kernel
theorem dL_plays_922 : decode cL_plays 922 = .ok (.iconst 5, 1) := by decide +kernel
theorem dL_plays_923 : decode cL_plays 923 = .ok (.iload 12, 2) := by decide +kernel
theorem dL_plays_925 : decode cL_plays 925 = .ok (.imul, 1) := by decide +kernel
theorem dL_plays_926 : decode cL_plays 926 = .ok (.iload 8, 2) := by decide +kernel
theorem dL_plays_928 : decode cL_plays 928 = .ok (.iadd, 1) := by decide +kernel
theorem dL_plays_929 : decode cL_plays 929 = .ok (.iaload, 1) := by decide +kernel
theorem dL_plays_930 : decode cL_plays 930 = .ok (.ifCond .lt 37, 3) := by decide +kernel
theorem dL_plays_933 : decode cL_plays 933 = .ok (.aload 6, 2) := by decide +kernel
theorem dL_plays_935 : decode cL_plays 935 = .ok (.iconst 5, 1) := by decide +kernel
theorem dL_plays_936 : decode cL_plays 936 = .ok (.iload 12, 2) := by decide +kernel
theorem dL_plays_938 : decode cL_plays 938 = .ok (.imul, 1) := by decide +kernel
theorem dL_plays_939 : decode cL_plays 939 = .ok (.iload 10, 2) := by decide +kernel
theorem dL_plays_941 : decode cL_plays 941 = .ok (.iadd, 1) := by decide +kernel
theorem dL_plays_942 : decode cL_plays 942 = .ok (.aload 6, 2) := by decide +kernel
theorem dL_plays_944 : decode cL_plays 944 = .ok (.iconst 5, 1) := by decide +kernel
theorem dL_plays_945 : decode cL_plays 945 = .ok (.iload 12, 2) := by decide +kernel
theorem dL_plays_947 : decode cL_plays 947 = .ok (.imul, 1) := by decide +kernel
theorem dL_plays_948 : decode cL_plays 948 = .ok (.iload 8, 2) := by decide +kernel
theorem dL_plays_950 : decode cL_plays 950 = .ok (.iadd, 1) := by decide +kernel
theorem dL_plays_951 : decode cL_plays 951 = .ok (.iaload, 1) := by decide +kernel
theorem dL_plays_952 : decode cL_plays 952 = .ok (.iastore, 1) := by decide +kernel
theorem dL_plays_953 : decode cL_plays 953 = .ok (.aload 6, 2) := by decide +kernel
theorem dL_plays_955 : decode cL_plays 955 = .ok (.iconst 5, 1) := by decide +kernel
theorem dL_plays_956 : decode cL_plays 956 = .ok (.iload 12, 2) := by decide +kernel
theorem dL_plays_958 : decode cL_plays 958 = .ok (.imul, 1) := by decide +kernel
theorem dL_plays_959 : decode cL_plays 959 = .ok (.iload 8, 2) := by decide +kernel
theorem dL_plays_961 : decode cL_plays 961 = .ok (.iadd, 1) := by decide +kernel
theorem dL_plays_962 : decode cL_plays 962 = .ok (.iconst (-1), 1) := by decide +kernel
theorem dL_plays_963 : decode cL_plays 963 = .ok (.iastore, 1) := by decide +kernel
theorem dL_plays_964 : decode cL_plays 964 = .ok (.iinc 11 1, 3) := by decide +kernel
theorem dL_plays_967 : decode cL_plays 967 = .ok (.iinc 12 1, 3) := by decide +kernel
theorem dL_plays_970 : decode cL_plays 970 = .ok (.goto (-61), 3) := by decide +kernel
theorem dL_plays_973 : decode cL_plays 973 = .ok (.aload_n 0, 1) := by decide +kernel
theorem dL_plays_974 : decode cL_plays 974 = .ok (.iconst 3, 1) := by decide +kernel
theorem dL_plays_975 : decode cL_plays 975 = .ok (.iload 8, 2) := by decide +kernel
theorem dL_plays_977 : decode cL_plays 977 = .ok (.iload 10, 2) := by decide +kernel
theorem dL_plays_979 : decode cL_plays 979 = .ok (.iconst 0, 1) := by decide +kernel
theorem dL_plays_980 : decode cL_plays 980 = .ok (.invokestatic 122, 3) := by decide +kernel
theorem dL_plays_983 : decode cL_plays 983 = .ok (.iload 11, 2) := by decide +kernel
theorem dL_plays_985 : decode cL_plays 985 = .ok (.if_icmp .ne 7, 3) := by decide +kernel
theorem dL_plays_988 : decode cL_plays 988 = .ok (.iconst 1, 1) := by decide +kernel
theorem dL_plays_989 : decode cL_plays 989 = .ok (.goto 4, 3) := by decide +kernel
theorem dL_plays_992 : decode cL_plays 992 = .ok (.iconst 0, 1) := by decide +kernel
theorem dL_plays_993 : decode cL_plays 993 = .ok (.ireturn, 1) := by decide +kernel
theorem dL_plays_994 : decode cL_plays 994 = .ok (.iload_n 2, 1) := by decide +kernel
theorem dL_plays_995 : decode cL_plays 995 = .ok (.iconst 3, 1) := by decide +kernel
theorem dL_plays_996 : decode cL_plays 996 = .ok (.ishr, 1) := by decide +kernel
theorem dL_plays_997 : decode cL_plays 997 = .ok (.bipush 20, 2) := by decide +kernel
theorem dL_plays_999 : decode cL_plays 999 = .ok (.invokestatic 98, 3) := by decide +kernel
theorem dL_plays_1002 : decode cL_plays 1002 = .ok (.ifCond .ne 8, 3) := by decide +kernel
theorem dL_plays_1005 : decode cL_plays 1005 = .ok (.bipush 21, 2) := by decide +kernel
theorem dL_plays_1007 : decode cL_plays 1007 = .ok (.goto 11, 3) := by decide +kernel
theorem dL_plays_1010 : decode cL_plays 1010 = .ok (.iload_n 2, 1) := by decide +kernel
theorem dL_plays_1011 : decode cL_plays 1011 = .ok (.iconst 3, 1) := by decide +kernel
theorem dL_plays_1012 : decode cL_plays 1012 = .ok (.ishr, 1) := by decide +kernel
theorem dL_plays_1013 : decode cL_plays 1013 = .ok (.bipush 21, 2) := by decide +kernel
theorem dL_plays_1015 : decode cL_plays 1015 = .ok (.invokestatic 98, 3) := by decide +kernel
theorem dL_plays_1018 : decode cL_plays 1018 = .ok (.istore 10, 2) := by decide +kernel
theorem dL_plays_1020 : decode cL_plays 1020 = .ok (.iload 9, 2) := by decide +kernel
theorem dL_plays_1022 : decode cL_plays 1022 = .ok (.ifCond .ne 8, 3) := by decide +kernel
theorem dL_plays_1025 : decode cL_plays 1025 = .ok (.bipush (-101), 2) := by decide +kernel
theorem dL_plays_1027 : decode cL_plays 1027 = .ok (.goto 22, 3) := by decide +kernel
theorem dL_plays_1030 : decode cL_plays 1030 = .ok (.iload 10, 2) := by decide +kernel
theorem dL_plays_1032 : decode cL_plays 1032 = .ok (.bipush 20, 2) := by decide +kernel
theorem dL_plays_1034 : decode cL_plays 1034 = .ok (.if_icmp .le 8, 3) := by decide +kernel
theorem dL_plays_1037 : decode cL_plays 1037 = .ok (.bipush (-102), 2) := by decide +kernel
theorem dL_plays_1039 : decode cL_plays 1039 = .ok (.goto 10, 3) := by decide +kernel
theorem dL_plays_1042 : decode cL_plays 1042 = .ok (.aload 4, 2) := by decide +kernel
theorem dL_plays_1044 : decode cL_plays 1044 = .ok (.iconst 5, 1) := by decide +kernel
theorem dL_plays_1045 : decode cL_plays 1045 = .ok (.iload 8, 2) := by decide +kernel
theorem dL_plays_1047 : decode cL_plays 1047 = .ok (.iadd, 1) := by decide +kernel
theorem dL_plays_1048 : decode cL_plays 1048 = .ok (.iaload, 1) := by decide +kernel
theorem dL_plays_1049 : decode cL_plays 1049 = .ok (.istore 11, 2) := by decide +kernel
theorem dL_plays_1051 : decode cL_plays 1051 = .ok (.iload 11, 2) := by decide +kernel
theorem dL_plays_1053 : decode cL_plays 1053 = .ok (.ifCond .lt 21, 3) := by decide +kernel
theorem dL_plays_1056 : decode cL_plays 1056 = .ok (.aload 4, 2) := by decide +kernel
theorem dL_plays_1058 : decode cL_plays 1058 = .ok (.iconst 5, 1) := by decide +kernel
theorem dL_plays_1059 : decode cL_plays 1059 = .ok (.iload 8, 2) := by decide +kernel
theorem dL_plays_1061 : decode cL_plays 1061 = .ok (.iadd, 1) := by decide +kernel
theorem dL_plays_1062 : decode cL_plays 1062 = .ok (.iload 10, 2) := by decide +kernel
theorem dL_plays_1064 : decode cL_plays 1064 = .ok (.iastore, 1) := by decide +kernel
theorem dL_plays_1065 : decode cL_plays 1065 = .ok (.aload 4, 2) := by decide +kernel
theorem dL_plays_1067 : decode cL_plays 1067 = .ok (.bipush 35, 2) := by decide +kernel
theorem dL_plays_1069 : decode cL_plays 1069 = .ok (.iload 8, 2) := by decide +kernel
theorem dL_plays_1071 : decode cL_plays 1071 = .ok (.iadd, 1) := by decide +kernel
theorem dL_plays_1072 : decode cL_plays 1072 = .ok (.iconst 0, 1) := by decide +kernel
theorem dL_plays_1073 : decode cL_plays 1073 = .ok (.iastore, 1) := by decide +kernel
theorem dL_plays_1074 : decode cL_plays 1074 = .ok (.aload_n 0, 1) := by decide +kernel
theorem dL_plays_1075 : decode cL_plays 1075 = .ok (.iconst 2, 1) := by decide +kernel
theorem dL_plays_1076 : decode cL_plays 1076 = .ok (.iload 8, 2) := by decide +kernel
theorem dL_plays_1078 : decode cL_plays 1078 = .ok (.iload 10, 2) := by decide +kernel
theorem dL_plays_1080 : decode cL_plays 1080 = .ok (.iconst 0, 1) := by decide +kernel
theorem dL_plays_1081 : decode cL_plays 1081 = .ok (.invokestatic 122, 3) := by decide +kernel
theorem dL_plays_1084 : decode cL_plays 1084 = .ok (.iload 11, 2) := by decide +kernel
theorem dL_plays_1086 : decode cL_plays 1086 = .ok (.if_icmp .ne 7, 3) := by decide +kernel
theorem dL_plays_1089 : decode cL_plays 1089 = .ok (.iconst 1, 1) := by decide +kernel
theorem dL_plays_1090 : decode cL_plays 1090 = .ok (.goto 4, 3) := by decide +kernel
theorem dL_plays_1093 : decode cL_plays 1093 = .ok (.iconst 0, 1) := by decide +kernel
theorem dL_plays_1094 : decode cL_plays 1094 = .ok (.ireturn, 1) := by decide +kernel
set_option maxRecDepth 20000 in
theorem ggL_asks_L_level : GoodIn wsL_asks wsL_level := goodIn_r _ [5, 6, 7, 4, 8, 9, 10, 11] (by decide +kernel) (by decide +kernel)
set_option maxRecDepth 20000 in
theorem gL_asks_L_level : GoodIn wsL_asks (va_wsS RL 133 yL_level wsL_level) := goodIn_app (goodIn_of _ (by decide +kernel)) ggL_asks_L_level
set_option maxRecDepth 20000 in
theorem ggL_asks_L_wanted : GoodIn wsL_asks wsL_wanted := goodIn_r _ [8, 9, 10, 4, 11] (by decide +kernel) (by decide +kernel)
set_option maxRecDepth 20000 in
theorem gL_asks_L_wanted : GoodIn wsL_asks (va_wsS RL 23 yL_wanted wsL_wanted) := goodIn_app (goodIn_of _ (by decide +kernel)) ggL_asks_L_wanted
set_option maxRecDepth 20000 in
theorem ggL_asks_L_of : GoodIn wsL_asks wsL_of := goodIn_ca (goodIn_r _ [14, 15, 16, 17, 18, 19, 20, 21, 22, 23, 24, 25, 26, 27, 28, 29, 30, 31, 32, 33, 34, 35, 36, 37, 38, 39, 40, 41, 42, 43, 44, 45, 46, 47, 48, 49, 50, 51, 52, 53, 54, 55, 56, 57, 58, 59, 60, 61, 62, 63, 64, 65, 66, 67, 68, 69, 70, 71, 72, 73, 74, 75, 76, 77, 78, 79, 80, 81, 82, 83, 84, 85, 86, 87, 88, 89, 90, 91, 92, 93, 94, 95, 96, 97, 98, 99, 100, 101, 102, 103, 104, 105, 106, 107, 108, 109, 110, 111, 172, 173, 174, 175, 176, 177, 178, 179, 180, 181, 182, 183, 184, 185, 186, 187, 188, 189, 190, 191, 192, 193, 194, 195, 196, 197, 198, 199, 200, 201] (by decide +kernel) (by decide +kernel)) (goodIn_sub (fun _ h => List.mem_cons_of_mem _ (List.mem_append_left _ (List.mem_append_right _ h))) (by decide +kernel))
set_option maxRecDepth 20000 in
theorem gL_asks_L_of : GoodIn wsL_asks (va_wsS RL 112 yL_of wsL_of) := goodIn_app (goodIn_of _ (by decide +kernel)) ggL_asks_L_of
set_option maxRecDepth 20000 in
theorem ggL_asks_L_some : GoodIn wsL_asks wsL_some := goodIn_r _ [114] (by decide +kernel) (by decide +kernel)
set_option maxRecDepth 20000 in
theorem gL_asks_L_some : GoodIn wsL_asks (va_wsS RL 98 yL_some wsL_some) := goodIn_app (goodIn_of _ (by decide +kernel)) ggL_asks_L_some
set_option maxRecDepth 20000 in
theorem ggL_asks_X3_burnt : GoodIn wsL_asks wsX3_burnt := goodIn_r _ [118, 28, 119, 172, 173, 174, 175, 176, 177, 178] (by decide +kernel) (by decide +kernel)
set_option maxRecDepth 20000 in
theorem gL_asks_X3_burnt : GoodIn wsL_asks (wsV RL 143 RX3 yX3_burnt wsX3_burnt) := goodIn_app (goodIn_of _ (by decide +kernel)) ggL_asks_X3_burnt
set_option maxRecDepth 20000 in
theorem ggL_asks_L_has : GoodIn wsL_asks wsL_has := goodIn_r _ [122] (by decide +kernel) (by decide +kernel)
set_option maxRecDepth 20000 in
theorem gL_asks_L_has : GoodIn wsL_asks (va_wsS RL 119 yL_has wsL_has) := goodIn_app (goodIn_of _ (by decide +kernel)) ggL_asks_L_has
set_option maxRecDepth 20000 in
theorem ggL_asks_L_ticks : GoodIn wsL_asks wsL_ticks := goodIn_ca (goodIn_r _ [125, 126, 127, 128, 129, 19, 130, 76, 131, 132, 133, 134, 135, 136, 78, 137, 138, 83, 139, 82, 140, 84, 141, 142, 143, 144, 145, 146, 147, 148, 149, 87, 86, 81, 150, 151, 152, 153, 77, 79, 80, 85, 88, 89, 90, 91, 92, 93, 94, 95, 154, 155, 156, 157, 28, 119, 71, 72, 73, 74, 21, 75, 29, 30, 31, 32, 33, 158, 159, 160, 161, 63, 162, 163, 164, 165, 166, 167, 168, 169, 170, 171, 172, 173, 174, 175, 176, 177, 178, 191, 192, 193, 194, 195, 196, 197, 198, 199, 200, 201, 179, 180, 181, 182, 183, 184, 185, 186, 187, 188, 189, 190] (by decide +kernel) (by decide +kernel)) (goodIn_sub (fun _ h => List.mem_cons_of_mem _ (List.mem_append_right _ h)) (by decide +kernel))
set_option maxRecDepth 20000 in
theorem gL_asks_L_ticks : GoodIn wsL_asks (va_wsS RL 136 yL_ticks wsL_ticks) := goodIn_app (goodIn_of _ (by decide +kernel)) ggL_asks_L_ticks
theorem dL_asks_0 : decode cL_asks 0 = .ok (.iconst 0, 1) := by decide +kernel
theorem dL_asks_1 : decode cL_asks 1 = .ok (.istore 5, 2) := by decide +kernel
theorem dL_asks_3 : decode cL_asks 3 = .ok (.iconst 4, 1) := by decide +kernel
theorem dL_asks_4 : decode cL_asks 4 = .ok (.newarray .int, 2) := by decide +kernel
theorem dL_asks_6 : decode cL_asks 6 = .ok (.astore 6, 2) := by decide +kernel
theorem dL_asks_8 : decode cL_asks 8 = .ok (.iconst 0, 1) := by decide +kernel
theorem dL_asks_9 : decode cL_asks 9 = .ok (.istore 7, 2) := by decide +kernel
theorem dL_asks_11 : decode cL_asks 11 = .ok (.iload 7, 2) := by decide +kernel
theorem dL_asks_13 : decode cL_asks 13 = .ok (.aload_n 2, 1) := by decide +kernel
theorem dL_asks_14 : decode cL_asks 14 = .ok (.iconst 3, 1) := by decide +kernel
theorem dL_asks_15 : decode cL_asks 15 = .ok (.iaload, 1) := by decide +kernel
theorem dL_asks_16 : decode cL_asks 16 = .ok (.if_icmp .gt 316, 3) := by decide +kernel
theorem dL_asks_19 : decode cL_asks 19 = .ok (.iload 7, 2) := by decide +kernel
theorem dL_asks_21 : decode cL_asks 21 = .ok (.aload_n 2, 1) := by decide +kernel
theorem dL_asks_22 : decode cL_asks 22 = .ok (.iconst 3, 1) := by decide +kernel
theorem dL_asks_23 : decode cL_asks 23 = .ok (.iaload, 1) := by decide +kernel
theorem dL_asks_24 : decode cL_asks 24 = .ok (.if_icmp .ge 7, 3) := by decide +kernel
theorem dL_asks_27 : decode cL_asks 27 = .ok (.iconst 1, 1) := by decide +kernel
theorem dL_asks_28 : decode cL_asks 28 = .ok (.goto 4, 3) := by decide +kernel
theorem dL_asks_31 : decode cL_asks 31 = .ok (.iconst 0, 1) := by decide +kernel
theorem dL_asks_32 : decode cL_asks 32 = .ok (.istore 8, 2) := by decide +kernel
theorem dL_asks_34 : decode cL_asks 34 = .ok (.iload 8, 2) := by decide +kernel
theorem dL_asks_36 : decode cL_asks 36 = .ok (.ifCond .eq 15, 3) := by decide +kernel
theorem dL_asks_39 : decode cL_asks 39 = .ok (.aload_n 2, 1) := by decide +kernel
theorem dL_asks_40 : decode cL_asks 40 = .ok (.aload_n 3, 1) := by decide +kernel
theorem dL_asks_41 : decode cL_asks 41 = .ok (.aload 4, 2) := by decide +kernel
theorem dL_asks_43 : decode cL_asks 43 = .ok (.iload 7, 2) := by decide +kernel
theorem dL_asks_45 : decode cL_asks 45 = .ok (.invokestatic 133, 3) := by decide +kernel
theorem dL_asks_48 : decode cL_asks 48 = .ok (.goto 5, 3) := by decide +kernel
theorem dL_asks_51 : decode cL_asks 51 = .ok (.bipush (-101), 2) := by decide +kernel
theorem dL_asks_53 : decode cL_asks 53 = .ok (.istore 9, 2) := by decide +kernel
theorem dL_asks_55 : decode cL_asks 55 = .ok (.iload 8, 2) := by decide +kernel
theorem dL_asks_57 : decode cL_asks 57 = .ok (.ifCond .eq 21, 3) := by decide +kernel
theorem dL_asks_60 : decode cL_asks 60 = .ok (.aload_n 2, 1) := by decide +kernel
theorem dL_asks_61 : decode cL_asks 61 = .ok (.aload 4, 2) := by decide +kernel
theorem dL_asks_63 : decode cL_asks 63 = .ok (.iload 7, 2) := by decide +kernel
theorem dL_asks_65 : decode cL_asks 65 = .ok (.aload_n 2, 1) := by decide +kernel
theorem dL_asks_66 : decode cL_asks 66 = .ok (.iconst 5, 1) := by decide +kernel
theorem dL_asks_67 : decode cL_asks 67 = .ok (.iaload, 1) := by decide +kernel
theorem dL_asks_68 : decode cL_asks 68 = .ok (.aload_n 2, 1) := by decide +kernel
theorem dL_asks_69 : decode cL_asks 69 = .ok (.bipush 7, 2) := by decide +kernel
theorem dL_asks_71 : decode cL_asks 71 = .ok (.iaload, 1) := by decide +kernel
theorem dL_asks_72 : decode cL_asks 72 = .ok (.invokestatic 23, 3) := by decide +kernel
theorem dL_asks_75 : decode cL_asks 75 = .ok (.goto 5, 3) := by decide +kernel
theorem dL_asks_78 : decode cL_asks 78 = .ok (.bipush (-101), 2) := by decide +kernel
theorem dL_asks_80 : decode cL_asks 80 = .ok (.istore 10, 2) := by decide +kernel
theorem dL_asks_82 : decode cL_asks 82 = .ok (.aload_n 0, 1) := by decide +kernel
theorem dL_asks_83 : decode cL_asks 83 = .ok (.iconst 2, 1) := by decide +kernel
theorem dL_asks_84 : decode cL_asks 84 = .ok (.iload 7, 2) := by decide +kernel
theorem dL_asks_86 : decode cL_asks 86 = .ok (.iconst 0, 1) := by decide +kernel
theorem dL_asks_87 : decode cL_asks 87 = .ok (.invokestatic 112, 3) := by decide +kernel
theorem dL_asks_90 : decode cL_asks 90 = .ok (.iload 8, 2) := by decide +kernel
theorem dL_asks_92 : decode cL_asks 92 = .ok (.ifCond .ne 8, 3) := by decide +kernel
theorem dL_asks_95 : decode cL_asks 95 = .ok (.bipush (-101), 2) := by decide +kernel
theorem dL_asks_97 : decode cL_asks 97 = .ok (.goto 36, 3) := by decide +kernel
theorem dL_asks_100 : decode cL_asks 100 = .ok (.aload_n 3, 1) := by decide +kernel
theorem dL_asks_101 : decode cL_asks 101 = .ok (.bipush 10, 2) := by decide +kernel
theorem dL_asks_103 : decode cL_asks 103 = .ok (.iload 7, 2) := by decide +kernel
theorem dL_asks_105 : decode cL_asks 105 = .ok (.iadd, 1) := by decide +kernel
theorem dL_asks_106 : decode cL_asks 106 = .ok (.iaload, 1) := by decide +kernel
theorem dL_asks_107 : decode cL_asks 107 = .ok (.ifCond .ge 7, 3) := by decide +kernel
theorem dL_asks_110 : decode cL_asks 110 = .ok (.iconst (-1), 1) := by decide +kernel
theorem dL_asks_111 : decode cL_asks 111 = .ok (.goto 22, 3) := by decide +kernel
theorem dL_asks_114 : decode cL_asks 114 = .ok (.sipush 1000, 3) := by decide +kernel
theorem dL_asks_117 : decode cL_asks 117 = .ok (.aload_n 3, 1) := by decide +kernel
theorem dL_asks_118 : decode cL_asks 118 = .ok (.bipush 10, 2) := by decide +kernel
theorem dL_asks_120 : decode cL_asks 120 = .ok (.iload 7, 2) := by decide +kernel
theorem dL_asks_122 : decode cL_asks 122 = .ok (.iadd, 1) := by decide +kernel
theorem dL_asks_123 : decode cL_asks 123 = .ok (.iaload, 1) := by decide +kernel
theorem dL_asks_124 : decode cL_asks 124 = .ok (.imul, 1) := by decide +kernel
theorem dL_asks_125 : decode cL_asks 125 = .ok (.aload_n 3, 1) := by decide +kernel
theorem dL_asks_126 : decode cL_asks 126 = .ok (.bipush 15, 2) := by decide +kernel
theorem dL_asks_128 : decode cL_asks 128 = .ok (.iload 7, 2) := by decide +kernel
theorem dL_asks_130 : decode cL_asks 130 = .ok (.iadd, 1) := by decide +kernel
theorem dL_asks_131 : decode cL_asks 131 = .ok (.iaload, 1) := by decide +kernel
theorem dL_asks_132 : decode cL_asks 132 = .ok (.iadd, 1) := by decide +kernel
theorem dL_asks_133 : decode cL_asks 133 = .ok (.if_icmp .ne 57, 3) := by decide +kernel
theorem dL_asks_136 : decode cL_asks 136 = .ok (.aload_n 0, 1) := by decide +kernel
theorem dL_asks_137 : decode cL_asks 137 = .ok (.iconst 5, 1) := by decide +kernel
theorem dL_asks_138 : decode cL_asks 138 = .ok (.iload 7, 2) := by decide +kernel
theorem dL_asks_140 : decode cL_asks 140 = .ok (.iconst 0, 1) := by decide +kernel
theorem dL_asks_141 : decode cL_asks 141 = .ok (.invokestatic 112, 3) := by decide +kernel
theorem dL_asks_144 : decode cL_asks 144 = .ok (.iload 9, 2) := by decide +kernel
theorem dL_asks_146 : decode cL_asks 146 = .ok (.if_icmp .ne 44, 3) := by decide +kernel
theorem dL_asks_149 : decode cL_asks 149 = .ok (.aload_n 0, 1) := by decide +kernel
theorem dL_asks_150 : decode cL_asks 150 = .ok (.bipush 6, 2) := by decide +kernel
theorem dL_asks_152 : decode cL_asks 152 = .ok (.iload 7, 2) := by decide +kernel
theorem dL_asks_154 : decode cL_asks 154 = .ok (.iconst 0, 1) := by decide +kernel
theorem dL_asks_155 : decode cL_asks 155 = .ok (.invokestatic 112, 3) := by decide +kernel
theorem dL_asks_158 : decode cL_asks 158 = .ok (.iload 10, 2) := by decide +kernel
theorem dL_asks_160 : decode cL_asks 160 = .ok (.if_icmp .ne 30, 3) := by decide +kernel
theorem dL_asks_163 : decode cL_asks 163 = .ok (.iload 7, 2) := by decide +kernel
theorem dL_asks_165 : decode cL_asks 165 = .ok (.iload_n 1, 1) := by decide +kernel
theorem dL_asks_166 : decode cL_asks 166 = .ok (.iconst 3, 1) := by decide +kernel
theorem dL_asks_167 : decode cL_asks 167 = .ok (.ishr, 1) := by decide +kernel
theorem dL_asks_168 : decode cL_asks 168 = .ok (.bipush 6, 2) := by decide +kernel
theorem dL_asks_170 : decode cL_asks 170 = .ok (.invokestatic 98, 3) := by decide +kernel
theorem dL_asks_173 : decode cL_asks 173 = .ok (.if_icmp .ne 19, 3) := by decide +kernel
theorem dL_asks_176 : decode cL_asks 176 = .ok (.aload_n 0, 1) := by decide +kernel
theorem dL_asks_177 : decode cL_asks 177 = .ok (.bipush 7, 2) := by decide +kernel
theorem dL_asks_179 : decode cL_asks 179 = .ok (.iload 7, 2) := by decide +kernel
theorem dL_asks_181 : decode cL_asks 181 = .ok (.iconst 0, 1) := by decide +kernel
theorem dL_asks_182 : decode cL_asks 182 = .ok (.invokestatic 112, 3) := by decide +kernel
theorem dL_asks_185 : decode cL_asks 185 = .ok (.iload 10, 2) := by decide +kernel
theorem dL_asks_187 : decode cL_asks 187 = .ok (.if_icmp .eq 5, 3) := by decide +kernel
theorem dL_asks_190 : decode cL_asks 190 = .ok (.iconst 0, 1) := by decide +kernel
theorem dL_asks_191 : decode cL_asks 191 = .ok (.ireturn, 1) := by decide +kernel
theorem dL_asks_192 : decode cL_asks 192 = .ok (.iload 8, 2) := by decide +kernel
theorem dL_asks_194 : decode cL_asks 194 = .ok (.ifCond .eq 132, 3) := by decide +kernel
theorem dL_asks_197 : decode cL_asks 197 = .ok (.iload 5, 2) := by decide +kernel
theorem dL_asks_199 : decode cL_asks 199 = .ok (.aload_n 3, 1) := by decide +kernel
theorem dL_asks_200 : decode cL_asks 200 = .ok (.bipush 35, 2) := by decide +kernel
theorem dL_asks_202 : decode cL_asks 202 = .ok (.iload 7, 2) := by decide +kernel
theorem dL_asks_204 : decode cL_asks 204 = .ok (.iadd, 1) := by decide +kernel
theorem dL_asks_205 : decode cL_asks 205 = .ok (.iaload, 1) := by decide +kernel
theorem dL_asks_206 : decode cL_asks 206 = .ok (.bipush 29, 2) := by decide +kernel
theorem dL_asks_208 : decode cL_asks 208 = .ok (.if_icmp .le 10, 3) := by decide +kernel
theorem dL_asks_211 : decode cL_asks 211 = .ok (.iconst 1, 1) := by decide +kernel
theorem dL_asks_212 : decode cL_asks 212 = .ok (.iload 7, 2) := by decide +kernel
theorem dL_asks_214 : decode cL_asks 214 = .ok (.ishl, 1) := by decide +kernel
theorem dL_asks_215 : decode cL_asks 215 = .ok (.goto 4, 3) := by decide +kernel
theorem dL_asks_218 : decode cL_asks 218 = .ok (.iconst 0, 1) := by decide +kernel
theorem dL_asks_219 : decode cL_asks 219 = .ok (.iadd, 1) := by decide +kernel
theorem dL_asks_220 : decode cL_asks 220 = .ok (.istore 5, 2) := by decide +kernel
theorem dL_asks_222 : decode cL_asks 222 = .ok (.aload_n 3, 1) := by decide +kernel
theorem dL_asks_223 : decode cL_asks 223 = .ok (.iload 7, 2) := by decide +kernel
theorem dL_asks_225 : decode cL_asks 225 = .ok (.iaload, 1) := by decide +kernel
theorem dL_asks_226 : decode cL_asks 226 = .ok (.ifCond .ne 9, 3) := by decide +kernel
theorem dL_asks_229 : decode cL_asks 229 = .ok (.sipush 1000, 3) := by decide +kernel
theorem dL_asks_232 : decode cL_asks 232 = .ok (.goto 34, 3) := by decide +kernel
theorem dL_asks_235 : decode cL_asks 235 = .ok (.aload_n 3, 1) := by decide +kernel
theorem dL_asks_236 : decode cL_asks 236 = .ok (.iload 7, 2) := by decide +kernel
theorem dL_asks_238 : decode cL_asks 238 = .ok (.iaload, 1) := by decide +kernel
theorem dL_asks_239 : decode cL_asks 239 = .ok (.iconst 1, 1) := by decide +kernel
theorem dL_asks_240 : decode cL_asks 240 = .ok (.if_icmp .ne 9, 3) := by decide +kernel
theorem dL_asks_243 : decode cL_asks 243 = .ok (.sipush 750, 3) := by decide +kernel
theorem dL_asks_246 : decode cL_asks 246 = .ok (.goto 20, 3) := by decide +kernel
theorem dL_asks_249 : decode cL_asks 249 = .ok (.aload_n 3, 1) := by decide +kernel
theorem dL_asks_250 : decode cL_asks 250 = .ok (.iload 7, 2) := by decide +kernel
theorem dL_asks_252 : decode cL_asks 252 = .ok (.iaload, 1) := by decide +kernel
theorem dL_asks_253 : decode cL_asks 253 = .ok (.iconst 2, 1) := by decide +kernel
theorem dL_asks_254 : decode cL_asks 254 = .ok (.if_icmp .ne 9, 3) := by decide +kernel
theorem dL_asks_257 : decode cL_asks 257 = .ok (.sipush 500, 3) := by decide +kernel
theorem dL_asks_260 : decode cL_asks 260 = .ok (.goto 6, 3) := by decide +kernel
theorem dL_asks_263 : decode cL_asks 263 = .ok (.sipush 800, 3) := by decide +kernel
theorem dL_asks_266 : decode cL_asks 266 = .ok (.istore 11, 2) := by decide +kernel
theorem dL_asks_268 : decode cL_asks 268 = .ok (.aload 6, 2) := by decide +kernel
theorem dL_asks_270 : decode cL_asks 270 = .ok (.aload_n 3, 1) := by decide +kernel
theorem dL_asks_271 : decode cL_asks 271 = .ok (.bipush 25, 2) := by decide +kernel
theorem dL_asks_273 : decode cL_asks 273 = .ok (.iload 7, 2) := by decide +kernel
theorem dL_asks_275 : decode cL_asks 275 = .ok (.iadd, 1) := by decide +kernel
theorem dL_asks_276 : decode cL_asks 276 = .ok (.iaload, 1) := by decide +kernel
theorem dL_asks_277 : decode cL_asks 277 = .ok (.ifCond .ge 7, 3) := by decide +kernel
theorem dL_asks_280 : decode cL_asks 280 = .ok (.iconst 0, 1) := by decide +kernel
theorem dL_asks_281 : decode cL_asks 281 = .ok (.goto 10, 3) := by decide +kernel
theorem dL_asks_284 : decode cL_asks 284 = .ok (.aload_n 3, 1) := by decide +kernel
theorem dL_asks_285 : decode cL_asks 285 = .ok (.bipush 25, 2) := by decide +kernel
theorem dL_asks_287 : decode cL_asks 287 = .ok (.iload 7, 2) := by decide +kernel
theorem dL_asks_289 : decode cL_asks 289 = .ok (.iadd, 1) := by decide +kernel
theorem dL_asks_290 : decode cL_asks 290 = .ok (.iaload, 1) := by decide +kernel
theorem dL_asks_291 : decode cL_asks 291 = .ok (.dup2, 1) := by decide +kernel
theorem dL_asks_292 : decode cL_asks 292 = .ok (.iaload, 1) := by decide +kernel
theorem dL_asks_293 : decode cL_asks 293 = .ok (.aload_n 3, 1) := by decide +kernel
theorem dL_asks_294 : decode cL_asks 294 = .ok (.bipush 25, 2) := by decide +kernel
theorem dL_asks_296 : decode cL_asks 296 = .ok (.iload 7, 2) := by decide +kernel
theorem dL_asks_298 : decode cL_asks 298 = .ok (.iadd, 1) := by decide +kernel
theorem dL_asks_299 : decode cL_asks 299 = .ok (.iaload, 1) := by decide +kernel
theorem dL_asks_300 : decode cL_asks 300 = .ok (.ifCond .ge 7, 3) := by decide +kernel
theorem dL_asks_303 : decode cL_asks 303 = .ok (.iconst 0, 1) := by decide +kernel
theorem dL_asks_304 : decode cL_asks 304 = .ok (.goto 20, 3) := by decide +kernel
theorem dL_asks_307 : decode cL_asks 307 = .ok (.iload 11, 2) := by decide +kernel
theorem dL_asks_309 : decode cL_asks 309 = .ok (.iload 9, 2) := by decide +kernel
theorem dL_asks_311 : decode cL_asks 311 = .ok (.imul, 1) := by decide +kernel
theorem dL_asks_312 : decode cL_asks 312 = .ok (.iload 11, 2) := by decide +kernel
theorem dL_asks_314 : decode cL_asks 314 = .ok (.iload 9, 2) := by decide +kernel
theorem dL_asks_316 : decode cL_asks 316 = .ok (.imul, 1) := by decide +kernel
theorem dL_asks_317 : decode cL_asks 317 = .ok (.bipush 100, 2) := by decide +kernel
theorem dL_asks_319 : decode cL_asks 319 = .ok (.irem, 1) := by decide +kernel
theorem dL_asks_320 : decode cL_asks 320 = .ok (.isub, 1) := by decide +kernel
theorem dL_asks_321 : decode cL_asks 321 = .ok (.bipush 100, 2) := by decide +kernel
theorem dL_asks_323 : decode cL_asks 323 = .ok (.idiv, 1) := by decide +kernel
theorem dL_asks_324 : decode cL_asks 324 = .ok (.iadd, 1) := by decide +kernel
theorem dL_asks_325 : decode cL_asks 325 = .ok (.iastore, 1) := by decide +kernel
theorem dL_asks_326 : decode cL_asks 326 = .ok (.iinc 7 1, 3) := by decide +kernel
theorem dL_asks_329 : decode cL_asks 329 = .ok (.goto (-318), 3) := by decide +kernel
theorem dL_asks_332 : decode cL_asks 332 = .ok (.iload_n 1, 1) := by decide +kernel
theorem dL_asks_333 : decode cL_asks 333 = .ok (.iconst 5, 1) := by decide +kernel
theorem dL_asks_334 : decode cL_asks 334 = .ok (.invokestatic 98, 3) := by decide +kernel
theorem dL_asks_337 : decode cL_asks 337 = .ok (.istore 7, 2) := by decide +kernel
theorem dL_asks_339 : decode cL_asks 339 = .ok (.aload_n 0, 1) := by decide +kernel
theorem dL_asks_340 : decode cL_asks 340 = .ok (.iconst 4, 1) := by decide +kernel
theorem dL_asks_341 : decode cL_asks 341 = .ok (.iload 7, 2) := by decide +kernel
theorem dL_asks_343 : decode cL_asks 343 = .ok (.iconst 0, 1) := by decide +kernel
theorem dL_asks_344 : decode cL_asks 344 = .ok (.invokestatic 112, 3) := by decide +kernel
theorem dL_asks_347 : decode cL_asks 347 = .ok (.iload 7, 2) := by decide +kernel
theorem dL_asks_349 : decode cL_asks 349 = .ok (.iconst 4, 1) := by decide +kernel
theorem dL_asks_350 : decode cL_asks 350 = .ok (.if_icmp .ge 11, 3) := by decide +kernel
theorem dL_asks_353 : decode cL_asks 353 = .ok (.aload 6, 2) := by decide +kernel
theorem dL_asks_355 : decode cL_asks 355 = .ok (.iload 7, 2) := by decide +kernel
theorem dL_asks_357 : decode cL_asks 357 = .ok (.iaload, 1) := by decide +kernel
theorem dL_asks_358 : decode cL_asks 358 = .ok (.goto 5, 3) := by decide +kernel
theorem dL_asks_361 : decode cL_asks 361 = .ok (.bipush (-101), 2) := by decide +kernel
theorem dL_asks_363 : decode cL_asks 363 = .ok (.if_icmp .ne 12, 3) := by decide +kernel
theorem dL_asks_366 : decode cL_asks 366 = .ok (.aload_n 0, 1) := by decide +kernel
theorem dL_asks_367 : decode cL_asks 367 = .ok (.invokevirtual 143, 3) := by decide +kernel
theorem dL_asks_370 : decode cL_asks 370 = .ok (.iload 5, 2) := by decide +kernel
theorem dL_asks_372 : decode cL_asks 372 = .ok (.if_icmp .eq 5, 3) := by decide +kernel
theorem dL_asks_375 : decode cL_asks 375 = .ok (.iconst 0, 1) := by decide +kernel
theorem dL_asks_376 : decode cL_asks 376 = .ok (.ireturn, 1) := by decide +kernel
theorem dL_asks_377 : decode cL_asks 377 = .ok (.iload_n 1, 1) := by decide +kernel
theorem dL_asks_378 : decode cL_asks 378 = .ok (.iconst 4, 1) := by decide +kernel
theorem dL_asks_379 : decode cL_asks 379 = .ok (.ishr, 1) := by decide +kernel
theorem dL_asks_380 : decode cL_asks 380 = .ok (.iconst 3, 1) := by decide +kernel
theorem dL_asks_381 : decode cL_asks 381 = .ok (.invokestatic 98, 3) := by decide +kernel
theorem dL_asks_384 : decode cL_asks 384 = .ok (.istore 8, 2) := by decide +kernel
theorem dL_asks_386 : decode cL_asks 386 = .ok (.iconst 0, 1) := by decide +kernel
theorem dL_asks_387 : decode cL_asks 387 = .ok (.istore 9, 2) := by decide +kernel
theorem dL_asks_389 : decode cL_asks 389 = .ok (.iconst 0, 1) := by decide +kernel
theorem dL_asks_390 : decode cL_asks 390 = .ok (.istore 10, 2) := by decide +kernel
theorem dL_asks_392 : decode cL_asks 392 = .ok (.iload 10, 2) := by decide +kernel
theorem dL_asks_394 : decode cL_asks 394 = .ok (.bipush 101, 2) := by decide +kernel
theorem dL_asks_396 : decode cL_asks 396 = .ok (.if_icmp .ge 81, 3) := by decide +kernel
theorem dL_asks_399 : decode cL_asks 399 = .ok (.iload 8, 2) := by decide +kernel
theorem dL_asks_401 : decode cL_asks 401 = .ok (.aload_n 2, 1) := by decide +kernel
theorem dL_asks_402 : decode cL_asks 402 = .ok (.iconst 1, 1) := by decide +kernel
theorem dL_asks_403 : decode cL_asks 403 = .ok (.aload_n 2, 1) := by decide +kernel
theorem dL_asks_404 : decode cL_asks 404 = .ok (.iconst 0, 1) := by decide +kernel
theorem dL_asks_405 : decode cL_asks 405 = .ok (.iaload, 1) := by decide +kernel
theorem dL_asks_406 : decode cL_asks 406 = .ok (.iadd, 1) := by decide +kernel
theorem dL_asks_407 : decode cL_asks 407 = .ok (.iaload, 1) := by decide +kernel
theorem dL_asks_408 : decode cL_asks 408 = .ok (.if_icmp .ge 69, 3) := by decide +kernel
theorem dL_asks_411 : decode cL_asks 411 = .ok (.iconst 0, 1) := by decide +kernel
theorem dL_asks_412 : decode cL_asks 412 = .ok (.istore 11, 2) := by decide +kernel
theorem dL_asks_414 : decode cL_asks 414 = .ok (.iload 11, 2) := by decide +kernel
theorem dL_asks_416 : decode cL_asks 416 = .ok (.aload_n 2, 1) := by decide +kernel
theorem dL_asks_417 : decode cL_asks 417 = .ok (.iconst 3, 1) := by decide +kernel
theorem dL_asks_418 : decode cL_asks 418 = .ok (.iaload, 1) := by decide +kernel
theorem dL_asks_419 : decode cL_asks 419 = .ok (.if_icmp .ge 52, 3) := by decide +kernel
theorem dL_asks_422 : decode cL_asks 422 = .ok (.aload_n 3, 1) := by decide +kernel
theorem dL_asks_423 : decode cL_asks 423 = .ok (.bipush 10, 2) := by decide +kernel
theorem dL_asks_425 : decode cL_asks 425 = .ok (.iload 11, 2) := by decide +kernel
theorem dL_asks_427 : decode cL_asks 427 = .ok (.iadd, 1) := by decide +kernel
theorem dL_asks_428 : decode cL_asks 428 = .ok (.iaload, 1) := by decide +kernel
theorem dL_asks_429 : decode cL_asks 429 = .ok (.iload 8, 2) := by decide +kernel
theorem dL_asks_431 : decode cL_asks 431 = .ok (.if_icmp .ne 34, 3) := by decide +kernel
theorem dL_asks_434 : decode cL_asks 434 = .ok (.aload_n 3, 1) := by decide +kernel
theorem dL_asks_435 : decode cL_asks 435 = .ok (.bipush 15, 2) := by decide +kernel
theorem dL_asks_437 : decode cL_asks 437 = .ok (.iload 11, 2) := by decide +kernel
theorem dL_asks_439 : decode cL_asks 439 = .ok (.iadd, 1) := by decide +kernel
theorem dL_asks_440 : decode cL_asks 440 = .ok (.iaload, 1) := by decide +kernel
theorem dL_asks_441 : decode cL_asks 441 = .ok (.iload 10, 2) := by decide +kernel
theorem dL_asks_443 : decode cL_asks 443 = .ok (.if_icmp .ne 22, 3) := by decide +kernel
theorem dL_asks_446 : decode cL_asks 446 = .ok (.aload_n 0, 1) := by decide +kernel
theorem dL_asks_447 : decode cL_asks 447 = .ok (.iconst 1, 1) := by decide +kernel
theorem dL_asks_448 : decode cL_asks 448 = .ok (.iload 8, 2) := by decide +kernel
theorem dL_asks_450 : decode cL_asks 450 = .ok (.iload 9, 2) := by decide +kernel
theorem dL_asks_452 : decode cL_asks 452 = .ok (.invokestatic 112, 3) := by decide +kernel
theorem dL_asks_455 : decode cL_asks 455 = .ok (.iload 11, 2) := by decide +kernel
theorem dL_asks_457 : decode cL_asks 457 = .ok (.if_icmp .eq 5, 3) := by decide +kernel
theorem dL_asks_460 : decode cL_asks 460 = .ok (.iconst 0, 1) := by decide +kernel
theorem dL_asks_461 : decode cL_asks 461 = .ok (.ireturn, 1) := by decide +kernel
theorem dL_asks_462 : decode cL_asks 462 = .ok (.iinc 9 1, 3) := by decide +kernel
theorem dL_asks_465 : decode cL_asks 465 = .ok (.iinc 11 1, 3) := by decide +kernel
theorem dL_asks_468 : decode cL_asks 468 = .ok (.goto (-54), 3) := by decide +kernel
theorem dL_asks_471 : decode cL_asks 471 = .ok (.iinc 10 1, 3) := by decide +kernel
theorem dL_asks_474 : decode cL_asks 474 = .ok (.goto (-82), 3) := by decide +kernel
theorem dL_asks_477 : decode cL_asks 477 = .ok (.iconst 1, 1) := by decide +kernel
theorem dL_asks_478 : decode cL_asks 478 = .ok (.iload_n 1, 1) := by decide +kernel
theorem dL_asks_479 : decode cL_asks 479 = .ok (.iconst 5, 1) := by decide +kernel
theorem dL_asks_480 : decode cL_asks 480 = .ok (.ishr, 1) := by decide +kernel
theorem dL_asks_481 : decode cL_asks 481 = .ok (.bipush 90, 2) := by decide +kernel
theorem dL_asks_483 : decode cL_asks 483 = .ok (.invokestatic 98, 3) := by decide +kernel
theorem dL_asks_486 : decode cL_asks 486 = .ok (.iadd, 1) := by decide +kernel
theorem dL_asks_487 : decode cL_asks 487 = .ok (.istore 10, 2) := by decide +kernel
theorem dL_asks_489 : decode cL_asks 489 = .ok (.iconst (-1), 1) := by decide +kernel
theorem dL_asks_490 : decode cL_asks 490 = .ok (.istore 11, 2) := by decide +kernel
theorem dL_asks_492 : decode cL_asks 492 = .ok (.bipush 100, 2) := by decide +kernel
theorem dL_asks_494 : decode cL_asks 494 = .ok (.iload 10, 2) := by decide +kernel
theorem dL_asks_496 : decode cL_asks 496 = .ok (.isub, 1) := by decide +kernel
theorem dL_asks_497 : decode cL_asks 497 = .ok (.istore 12, 2) := by decide +kernel
theorem dL_asks_499 : decode cL_asks 499 = .ok (.iload 12, 2) := by decide +kernel
theorem dL_asks_501 : decode cL_asks 501 = .ok (.ifCond .lt 100, 3) := by decide +kernel
theorem dL_asks_504 : decode cL_asks 504 = .ok (.iconst 1, 1) := by decide +kernel
theorem dL_asks_505 : decode cL_asks 505 = .ok (.istore 13, 2) := by decide +kernel
theorem dL_asks_507 : decode cL_asks 507 = .ok (.iconst 0, 1) := by decide +kernel
theorem dL_asks_508 : decode cL_asks 508 = .ok (.istore 14, 2) := by decide +kernel
theorem dL_asks_510 : decode cL_asks 510 = .ok (.iload 14, 2) := by decide +kernel
theorem dL_asks_512 : decode cL_asks 512 = .ok (.aload_n 2, 1) := by decide +kernel
theorem dL_asks_513 : decode cL_asks 513 = .ok (.iconst 3, 1) := by decide +kernel
theorem dL_asks_514 : decode cL_asks 514 = .ok (.iaload, 1) := by decide +kernel
theorem dL_asks_515 : decode cL_asks 515 = .ok (.if_icmp .ge 66, 3) := by decide +kernel
theorem dL_asks_518 : decode cL_asks 518 = .ok (.iload 13, 2) := by decide +kernel
theorem dL_asks_520 : decode cL_asks 520 = .ok (.ifCond .eq 52, 3) := by decide +kernel
theorem dL_asks_523 : decode cL_asks 523 = .ok (.aload_n 3, 1) := by decide +kernel
theorem dL_asks_524 : decode cL_asks 524 = .ok (.bipush 20, 2) := by decide +kernel
theorem dL_asks_526 : decode cL_asks 526 = .ok (.iload 14, 2) := by decide +kernel
theorem dL_asks_528 : decode cL_asks 528 = .ok (.iadd, 1) := by decide +kernel
theorem dL_asks_529 : decode cL_asks 529 = .ok (.iaload, 1) := by decide +kernel
theorem dL_asks_530 : decode cL_asks 530 = .ok (.ifCond .lt 38, 3) := by decide +kernel
theorem dL_asks_533 : decode cL_asks 533 = .ok (.aload_n 3, 1) := by decide +kernel
theorem dL_asks_534 : decode cL_asks 534 = .ok (.bipush 20, 2) := by decide +kernel
theorem dL_asks_536 : decode cL_asks 536 = .ok (.iload 14, 2) := by decide +kernel
theorem dL_asks_538 : decode cL_asks 538 = .ok (.iadd, 1) := by decide +kernel
theorem dL_asks_539 : decode cL_asks 539 = .ok (.iaload, 1) := by decide +kernel
theorem dL_asks_540 : decode cL_asks 540 = .ok (.iload 12, 2) := by decide +kernel
theorem dL_asks_542 : decode cL_asks 542 = .ok (.iload 10, 2) := by decide +kernel
theorem dL_asks_544 : decode cL_asks 544 = .ok (.iadd, 1) := by decide +kernel
theorem dL_asks_545 : decode cL_asks 545 = .ok (.if_icmp .ge 23, 3) := by decide +kernel
theorem dL_asks_548 : decode cL_asks 548 = .ok (.aload_n 3, 1) := by decide +kernel
theorem dL_asks_549 : decode cL_asks 549 = .ok (.bipush 20, 2) := by decide +kernel
theorem dL_asks_551 : decode cL_asks 551 = .ok (.iload 14, 2) := by decide +kernel
theorem dL_asks_553 : decode cL_asks 553 = .ok (.iadd, 1) := by decide +kernel
theorem dL_asks_554 : decode cL_asks 554 = .ok (.iaload, 1) := by decide +kernel
theorem dL_asks_555 : decode cL_asks 555 = .ok (.aload_n 3, 1) := by decide +kernel
theorem dL_asks_556 : decode cL_asks 556 = .ok (.iload 14, 2) := by decide +kernel
theorem dL_asks_558 : decode cL_asks 558 = .ok (.iaload, 1) := by decide +kernel
theorem dL_asks_559 : decode cL_asks 559 = .ok (.invokestatic 119, 3) := by decide +kernel
theorem dL_asks_562 : decode cL_asks 562 = .ok (.iadd, 1) := by decide +kernel
theorem dL_asks_563 : decode cL_asks 563 = .ok (.iload 12, 2) := by decide +kernel
theorem dL_asks_565 : decode cL_asks 565 = .ok (.if_icmp .gt 7, 3) := by decide +kernel
theorem dL_asks_568 : decode cL_asks 568 = .ok (.iconst 1, 1) := by decide +kernel
theorem dL_asks_569 : decode cL_asks 569 = .ok (.goto 4, 3) := by decide +kernel
theorem dL_asks_572 : decode cL_asks 572 = .ok (.iconst 0, 1) := by decide +kernel
theorem dL_asks_573 : decode cL_asks 573 = .ok (.istore 13, 2) := by decide +kernel
theorem dL_asks_575 : decode cL_asks 575 = .ok (.iinc 14 1, 3) := by decide +kernel
theorem dL_asks_578 : decode cL_asks 578 = .ok (.goto (-68), 3) := by decide +kernel
theorem dL_asks_581 : decode cL_asks 581 = .ok (.iload 13, 2) := by decide +kernel
theorem dL_asks_583 : decode cL_asks 583 = .ok (.ifCond .eq 8, 3) := by decide +kernel
theorem dL_asks_586 : decode cL_asks 586 = .ok (.iload 12, 2) := by decide +kernel
theorem dL_asks_588 : decode cL_asks 588 = .ok (.goto 5, 3) := by decide +kernel
theorem dL_asks_591 : decode cL_asks 591 = .ok (.iload 11, 2) := by decide +kernel
theorem dL_asks_593 : decode cL_asks 593 = .ok (.istore 11, 2) := by decide +kernel
theorem dL_asks_595 : decode cL_asks 595 = .ok (.iinc 12 (-1), 3) := by decide +kernel
theorem dL_asks_598 : decode cL_asks 598 = .ok (.goto (-99), 3) := by decide +kernel
theorem dL_asks_601 : decode cL_asks 601 = .ok (.aload_n 0, 1) := by decide +kernel
theorem dL_asks_602 : decode cL_asks 602 = .ok (.iconst 1, 1) := by decide +kernel
theorem dL_asks_603 : decode cL_asks 603 = .ok (.iload 8, 2) := by decide +kernel
theorem dL_asks_605 : decode cL_asks 605 = .ok (.iload 9, 2) := by decide +kernel
theorem dL_asks_607 : decode cL_asks 607 = .ok (.invokestatic 112, 3) := by decide +kernel
theorem dL_asks_610 : decode cL_asks 610 = .ok (.bipush (-101), 2) := by decide +kernel
theorem dL_asks_612 : decode cL_asks 612 = .ok (.if_icmp .ne 43, 3) := by decide +kernel
theorem dL_asks_615 : decode cL_asks 615 = .ok (.aload_n 0, 1) := by decide +kernel
theorem dL_asks_616 : decode cL_asks 616 = .ok (.iconst 1, 1) := by decide +kernel
theorem dL_asks_617 : decode cL_asks 617 = .ok (.iload 10, 2) := by decide +kernel
theorem dL_asks_619 : decode cL_asks 619 = .ok (.invokestatic 136, 3) := by decide +kernel
theorem dL_asks_622 : decode cL_asks 622 = .ok (.iload 11, 2) := by decide +kernel
theorem dL_asks_624 : decode cL_asks 624 = .ok (.if_icmp .ne 31, 3) := by decide +kernel
theorem dL_asks_627 : decode cL_asks 627 = .ok (.aload_n 0, 1) := by decide +kernel
theorem dL_asks_628 : decode cL_asks 628 = .ok (.iconst 1, 1) := by decide +kernel
theorem dL_asks_629 : decode cL_asks 629 = .ok (.iconst 0, 1) := by decide +kernel
theorem dL_asks_630 : decode cL_asks 630 = .ok (.invokestatic 136, 3) := by decide +kernel
theorem dL_asks_633 : decode cL_asks 633 = .ok (.bipush (-101), 2) := by decide +kernel
theorem dL_asks_635 : decode cL_asks 635 = .ok (.if_icmp .ne 20, 3) := by decide +kernel
theorem dL_asks_638 : decode cL_asks 638 = .ok (.aload_n 0, 1) := by decide +kernel
theorem dL_asks_639 : decode cL_asks 639 = .ok (.bipush 6, 2) := by decide +kernel
theorem dL_asks_641 : decode cL_asks 641 = .ok (.iconst (-1), 1) := by decide +kernel
theorem dL_asks_642 : decode cL_asks 642 = .ok (.iconst 0, 1) := by decide +kernel
theorem dL_asks_643 : decode cL_asks 643 = .ok (.invokestatic 112, 3) := by decide +kernel
theorem dL_asks_646 : decode cL_asks 646 = .ok (.bipush (-101), 2) := by decide +kernel
theorem dL_asks_648 : decode cL_asks 648 = .ok (.if_icmp .ne 7, 3) := by decide +kernel
theorem dL_asks_651 : decode cL_asks 651 = .ok (.iconst 1, 1) := by decide +kernel
theorem dL_asks_652 : decode cL_asks 652 = .ok (.goto 4, 3) := by decide +kernel
theorem dL_asks_655 : decode cL_asks 655 = .ok (.iconst 0, 1) := by decide +kernel
theorem dL_asks_656 : decode cL_asks 656 = .ok (.ireturn, 1) := by decide +kernel
set_option maxRecDepth 20000 in
theorem ggL_law_X3_init : GoodIn wsL_law wsX3_init := goodIn_r _ [6, 7, 8, 9, 10, 3, 11, 12, 13, 14, 15, 16, 17, 18, 19, 20, 21, 22, 23, 24, 25, 26, 27, 28, 29, 30, 31, 32, 33, 34, 35, 36, 37, 38, 39, 40, 41, 42, 43, 44, 45, 46, 47, 48, 49, 50, 51, 52, 53, 54, 55, 56, 57, 58, 59, 60, 61, 62, 63, 64, 355, 356, 357, 358, 359, 360, 361, 362, 363, 364, 365, 366, 367, 368, 369, 370, 371, 372, 373, 374, 375, 376, 377, 378, 379, 380, 381, 382, 383, 384] (by decide +kernel) (by decide +kernel)
set_option maxRecDepth 20000 in
theorem gL_law_X3_init : GoodIn wsL_law (wsX3_init) := ggL_law_X3_init
set_option maxRecDepth 20000 in
theorem ggL_law_L_cell : GoodIn wsL_law wsL_cell := goodIn_r _ [68, 69] (by decide +kernel) (by decide +kernel)
set_option maxRecDepth 20000 in
theorem gL_law_L_cell : GoodIn wsL_law (va_wsS RL 147 yL_cell wsL_cell) := goodIn_app (goodIn_of _ (by decide +kernel)) ggL_law_L_cell
set_option maxRecDepth 20000 in
theorem ggL_law_L_some : GoodIn wsL_law wsL_some := goodIn_r _ [72] (by decide +kernel) (by decide +kernel)
set_option maxRecDepth 20000 in
theorem gL_law_L_some : GoodIn wsL_law (va_wsS RL 98 yL_some wsL_some) := goodIn_app (goodIn_of _ (by decide +kernel)) ggL_law_L_some
theorem dL_law_0 : decode cL_law 0 = .ok (.new 28, 3) := by decide +kernel
theorem dL_law_3 : decode cL_law 3 = .ok (.dup, 1) := by decide +kernel
theorem dL_law_4 : decode cL_law 4 = .ok (.invokespecial 146, 3) := by decide +kernel
theorem dL_law_7 : decode cL_law 7 = .ok (.astore_n 1, 1) := by decide +kernel
theorem dL_law_8 : decode cL_law 8 = .ok (.bipush 8, 2) := by decide +kernel
theorem dL_law_10 : decode cL_law 10 = .ok (.newarray .int, 2) := by decide +kernel
theorem dL_law_12 : decode cL_law 12 = .ok (.astore_n 2, 1) := by decide +kernel
theorem dL_law_13 : decode cL_law 13 = .ok (.bipush 8, 2) := by decide +kernel
theorem dL_law_15 : decode cL_law 15 = .ok (.newarray .int, 2) := by decide +kernel
theorem dL_law_17 : decode cL_law 17 = .ok (.astore_n 3, 1) := by decide +kernel
theorem dL_law_18 : decode cL_law 18 = .ok (.bipush 40, 2) := by decide +kernel
theorem dL_law_20 : decode cL_law 20 = .ok (.newarray .int, 2) := by decide +kernel
theorem dL_law_22 : decode cL_law 22 = .ok (.astore 4, 2) := by decide +kernel
theorem dL_law_24 : decode cL_law 24 = .ok (.bipush 12, 2) := by decide +kernel
theorem dL_law_26 : decode cL_law 26 = .ok (.newarray .int, 2) := by decide +kernel
theorem dL_law_28 : decode cL_law 28 = .ok (.astore 5, 2) := by decide +kernel
theorem dL_law_30 : decode cL_law 30 = .ok (.bipush 20, 2) := by decide +kernel
theorem dL_law_32 : decode cL_law 32 = .ok (.newarray .int, 2) := by decide +kernel
theorem dL_law_34 : decode cL_law 34 = .ok (.astore 6, 2) := by decide +kernel
theorem dL_law_36 : decode cL_law 36 = .ok (.bipush 32, 2) := by decide +kernel
theorem dL_law_38 : decode cL_law 38 = .ok (.newarray .int, 2) := by decide +kernel
theorem dL_law_40 : decode cL_law 40 = .ok (.astore 7, 2) := by decide +kernel
theorem dL_law_42 : decode cL_law 42 = .ok (.iconst 0, 1) := by decide +kernel
theorem dL_law_43 : decode cL_law 43 = .ok (.istore 8, 2) := by decide +kernel
theorem dL_law_45 : decode cL_law 45 = .ok (.iload 8, 2) := by decide +kernel
theorem dL_law_47 : decode cL_law 47 = .ok (.bipush 20, 2) := by decide +kernel
theorem dL_law_49 : decode cL_law 49 = .ok (.if_icmp .ge 15, 3) := by decide +kernel
theorem dL_law_52 : decode cL_law 52 = .ok (.aload 6, 2) := by decide +kernel
theorem dL_law_54 : decode cL_law 54 = .ok (.iload 8, 2) := by decide +kernel
theorem dL_law_56 : decode cL_law 56 = .ok (.iconst (-1), 1) := by decide +kernel
theorem dL_law_57 : decode cL_law 57 = .ok (.iastore, 1) := by decide +kernel
theorem dL_law_58 : decode cL_law 58 = .ok (.iinc 8 1, 3) := by decide +kernel
theorem dL_law_61 : decode cL_law 61 = .ok (.goto (-16), 3) := by decide +kernel
theorem dL_law_64 : decode cL_law 64 = .ok (.iconst 0, 1) := by decide +kernel
theorem dL_law_65 : decode cL_law 65 = .ok (.istore 8, 2) := by decide +kernel
theorem dL_law_67 : decode cL_law 67 = .ok (.iload 8, 2) := by decide +kernel
theorem dL_law_69 : decode cL_law 69 = .ok (.bipush 100, 2) := by decide +kernel
theorem dL_law_71 : decode cL_law 71 = .ok (.if_icmp .ge 290, 3) := by decide +kernel
theorem dL_law_74 : decode cL_law 74 = .ok (.aload_n 0, 1) := by decide +kernel
theorem dL_law_75 : decode cL_law 75 = .ok (.iload 8, 2) := by decide +kernel
theorem dL_law_77 : decode cL_law 77 = .ok (.bipush 79, 2) := by decide +kernel
theorem dL_law_79 : decode cL_law 79 = .ok (.irem, 1) := by decide +kernel
theorem dL_law_80 : decode cL_law 80 = .ok (.invokestatic 147, 3) := by decide +kernel
theorem dL_law_83 : decode cL_law 83 = .ok (.iload 8, 2) := by decide +kernel
theorem dL_law_85 : decode cL_law 85 = .ok (.sipush 31337, 3) := by decide +kernel
theorem dL_law_88 : decode cL_law 88 = .ok (.imul, 1) := by decide +kernel
theorem dL_law_89 : decode cL_law 89 = .ok (.ixor, 1) := by decide +kernel
theorem dL_law_90 : decode cL_law 90 = .ok (.istore 9, 2) := by decide +kernel
theorem dL_law_92 : decode cL_law 92 = .ok (.iload 9, 2) := by decide +kernel
theorem dL_law_94 : decode cL_law 94 = .ok (.iconst 4, 1) := by decide +kernel
theorem dL_law_95 : decode cL_law 95 = .ok (.ishr, 1) := by decide +kernel
theorem dL_law_96 : decode cL_law 96 = .ok (.istore 10, 2) := by decide +kernel
theorem dL_law_98 : decode cL_law 98 = .ok (.iload 9, 2) := by decide +kernel
theorem dL_law_100 : decode cL_law 100 = .ok (.bipush 24, 2) := by decide +kernel
theorem dL_law_102 : decode cL_law 102 = .ok (.invokestatic 98, 3) := by decide +kernel
theorem dL_law_105 : decode cL_law 105 = .ok (.istore 11, 2) := by decide +kernel
theorem dL_law_107 : decode cL_law 107 = .ok (.iload 8, 2) := by decide +kernel
theorem dL_law_109 : decode cL_law 109 = .ok (.iconst 5, 1) := by decide +kernel
theorem dL_law_110 : decode cL_law 110 = .ok (.if_icmp .ge 17, 3) := by decide +kernel
theorem dL_law_113 : decode cL_law 113 = .ok (.aload_n 1, 1) := by decide +kernel
theorem dL_law_114 : decode cL_law 114 = .ok (.iconst 0, 1) := by decide +kernel
theorem dL_law_115 : decode cL_law 115 = .ok (.iload 10, 2) := by decide +kernel
theorem dL_law_117 : decode cL_law 117 = .ok (.aload_n 2, 1) := by decide +kernel
theorem dL_law_118 : decode cL_law 118 = .ok (.aload_n 3, 1) := by decide +kernel
theorem dL_law_119 : decode cL_law 119 = .ok (.aload 4, 2) := by decide +kernel
theorem dL_law_121 : decode cL_law 121 = .ok (.invokestatic 151, 3) := by decide +kernel
theorem dL_law_124 : decode cL_law 124 = .ok (.goto 208, 3) := by decide +kernel
theorem dL_law_127 : decode cL_law 127 = .ok (.iload 8, 2) := by decide +kernel
theorem dL_law_129 : decode cL_law 129 = .ok (.bipush 9, 2) := by decide +kernel
theorem dL_law_131 : decode cL_law 131 = .ok (.if_icmp .ge 17, 3) := by decide +kernel
theorem dL_law_134 : decode cL_law 134 = .ok (.aload_n 1, 1) := by decide +kernel
theorem dL_law_135 : decode cL_law 135 = .ok (.iconst 1, 1) := by decide +kernel
theorem dL_law_136 : decode cL_law 136 = .ok (.iload 10, 2) := by decide +kernel
theorem dL_law_138 : decode cL_law 138 = .ok (.aload_n 2, 1) := by decide +kernel
theorem dL_law_139 : decode cL_law 139 = .ok (.aload_n 3, 1) := by decide +kernel
theorem dL_law_140 : decode cL_law 140 = .ok (.aload 4, 2) := by decide +kernel
theorem dL_law_142 : decode cL_law 142 = .ok (.invokestatic 151, 3) := by decide +kernel
theorem dL_law_145 : decode cL_law 145 = .ok (.goto 187, 3) := by decide +kernel
theorem dL_law_148 : decode cL_law 148 = .ok (.iload 8, 2) := by decide +kernel
theorem dL_law_150 : decode cL_law 150 = .ok (.bipush 13, 2) := by decide +kernel
theorem dL_law_152 : decode cL_law 152 = .ok (.if_icmp .ge 22, 3) := by decide +kernel
theorem dL_law_155 : decode cL_law 155 = .ok (.aload_n 1, 1) := by decide +kernel
theorem dL_law_156 : decode cL_law 156 = .ok (.iconst 0, 1) := by decide +kernel
theorem dL_law_157 : decode cL_law 157 = .ok (.iload 10, 2) := by decide +kernel
theorem dL_law_159 : decode cL_law 159 = .ok (.aload_n 2, 1) := by decide +kernel
theorem dL_law_160 : decode cL_law 160 = .ok (.aload 4, 2) := by decide +kernel
theorem dL_law_162 : decode cL_law 162 = .ok (.aload 5, 2) := by decide +kernel
theorem dL_law_164 : decode cL_law 164 = .ok (.aload 6, 2) := by decide +kernel
theorem dL_law_166 : decode cL_law 166 = .ok (.aload 7, 2) := by decide +kernel
theorem dL_law_168 : decode cL_law 168 = .ok (.invokestatic 155, 3) := by decide +kernel
theorem dL_law_171 : decode cL_law 171 = .ok (.goto 161, 3) := by decide +kernel
theorem dL_law_174 : decode cL_law 174 = .ok (.iload 8, 2) := by decide +kernel
theorem dL_law_176 : decode cL_law 176 = .ok (.bipush 20, 2) := by decide +kernel
theorem dL_law_178 : decode cL_law 178 = .ok (.if_icmp .ge 22, 3) := by decide +kernel
theorem dL_law_181 : decode cL_law 181 = .ok (.aload_n 1, 1) := by decide +kernel
theorem dL_law_182 : decode cL_law 182 = .ok (.iconst 1, 1) := by decide +kernel
theorem dL_law_183 : decode cL_law 183 = .ok (.iload 10, 2) := by decide +kernel
theorem dL_law_185 : decode cL_law 185 = .ok (.aload_n 2, 1) := by decide +kernel
theorem dL_law_186 : decode cL_law 186 = .ok (.aload 4, 2) := by decide +kernel
theorem dL_law_188 : decode cL_law 188 = .ok (.aload 5, 2) := by decide +kernel
theorem dL_law_190 : decode cL_law 190 = .ok (.aload 6, 2) := by decide +kernel
theorem dL_law_192 : decode cL_law 192 = .ok (.aload 7, 2) := by decide +kernel
theorem dL_law_194 : decode cL_law 194 = .ok (.invokestatic 155, 3) := by decide +kernel
theorem dL_law_197 : decode cL_law 197 = .ok (.goto 135, 3) := by decide +kernel
theorem dL_law_200 : decode cL_law 200 = .ok (.iload 8, 2) := by decide +kernel
theorem dL_law_202 : decode cL_law 202 = .ok (.bipush 24, 2) := by decide +kernel
theorem dL_law_204 : decode cL_law 204 = .ok (.if_icmp .ge 17, 3) := by decide +kernel
theorem dL_law_207 : decode cL_law 207 = .ok (.aload_n 1, 1) := by decide +kernel
theorem dL_law_208 : decode cL_law 208 = .ok (.iconst 2, 1) := by decide +kernel
theorem dL_law_209 : decode cL_law 209 = .ok (.iload 10, 2) := by decide +kernel
theorem dL_law_211 : decode cL_law 211 = .ok (.aload_n 2, 1) := by decide +kernel
theorem dL_law_212 : decode cL_law 212 = .ok (.aload_n 3, 1) := by decide +kernel
theorem dL_law_213 : decode cL_law 213 = .ok (.aload 4, 2) := by decide +kernel
theorem dL_law_215 : decode cL_law 215 = .ok (.invokestatic 151, 3) := by decide +kernel
theorem dL_law_218 : decode cL_law 218 = .ok (.goto 114, 3) := by decide +kernel
theorem dL_law_221 : decode cL_law 221 = .ok (.iload 11, 2) := by decide +kernel
theorem dL_law_223 : decode cL_law 223 = .ok (.bipush 7, 2) := by decide +kernel
theorem dL_law_225 : decode cL_law 225 = .ok (.if_icmp .ge 18, 3) := by decide +kernel
theorem dL_law_228 : decode cL_law 228 = .ok (.aload_n 1, 1) := by decide +kernel
theorem dL_law_229 : decode cL_law 229 = .ok (.iload 11, 2) := by decide +kernel
theorem dL_law_231 : decode cL_law 231 = .ok (.iload 10, 2) := by decide +kernel
theorem dL_law_233 : decode cL_law 233 = .ok (.aload_n 2, 1) := by decide +kernel
theorem dL_law_234 : decode cL_law 234 = .ok (.aload_n 3, 1) := by decide +kernel
theorem dL_law_235 : decode cL_law 235 = .ok (.aload 4, 2) := by decide +kernel
theorem dL_law_237 : decode cL_law 237 = .ok (.invokestatic 151, 3) := by decide +kernel
theorem dL_law_240 : decode cL_law 240 = .ok (.goto 92, 3) := by decide +kernel
theorem dL_law_243 : decode cL_law 243 = .ok (.iload 11, 2) := by decide +kernel
theorem dL_law_245 : decode cL_law 245 = .ok (.bipush 15, 2) := by decide +kernel
theorem dL_law_247 : decode cL_law 247 = .ok (.if_icmp .ge 26, 3) := by decide +kernel
theorem dL_law_250 : decode cL_law 250 = .ok (.aload_n 1, 1) := by decide +kernel
theorem dL_law_251 : decode cL_law 251 = .ok (.iload 11, 2) := by decide +kernel
theorem dL_law_253 : decode cL_law 253 = .ok (.bipush 7, 2) := by decide +kernel
theorem dL_law_255 : decode cL_law 255 = .ok (.isub, 1) := by decide +kernel
theorem dL_law_256 : decode cL_law 256 = .ok (.iload 10, 2) := by decide +kernel
theorem dL_law_258 : decode cL_law 258 = .ok (.aload_n 2, 1) := by decide +kernel
theorem dL_law_259 : decode cL_law 259 = .ok (.aload 4, 2) := by decide +kernel
theorem dL_law_261 : decode cL_law 261 = .ok (.aload 5, 2) := by decide +kernel
theorem dL_law_263 : decode cL_law 263 = .ok (.aload 6, 2) := by decide +kernel
theorem dL_law_265 : decode cL_law 265 = .ok (.aload 7, 2) := by decide +kernel
theorem dL_law_267 : decode cL_law 267 = .ok (.invokestatic 155, 3) := by decide +kernel
theorem dL_law_270 : decode cL_law 270 = .ok (.goto 62, 3) := by decide +kernel
theorem dL_law_273 : decode cL_law 273 = .ok (.iload 11, 2) := by decide +kernel
theorem dL_law_275 : decode cL_law 275 = .ok (.bipush 17, 2) := by decide +kernel
theorem dL_law_277 : decode cL_law 277 = .ok (.if_icmp .ge 17, 3) := by decide +kernel
theorem dL_law_280 : decode cL_law 280 = .ok (.aload_n 1, 1) := by decide +kernel
theorem dL_law_281 : decode cL_law 281 = .ok (.iconst 2, 1) := by decide +kernel
theorem dL_law_282 : decode cL_law 282 = .ok (.iload 10, 2) := by decide +kernel
theorem dL_law_284 : decode cL_law 284 = .ok (.aload_n 2, 1) := by decide +kernel
theorem dL_law_285 : decode cL_law 285 = .ok (.aload_n 3, 1) := by decide +kernel
theorem dL_law_286 : decode cL_law 286 = .ok (.aload 4, 2) := by decide +kernel
theorem dL_law_288 : decode cL_law 288 = .ok (.invokestatic 151, 3) := by decide +kernel
theorem dL_law_291 : decode cL_law 291 = .ok (.goto 41, 3) := by decide +kernel
theorem dL_law_294 : decode cL_law 294 = .ok (.aload_n 1, 1) := by decide +kernel
theorem dL_law_295 : decode cL_law 295 = .ok (.iload 11, 2) := by decide +kernel
theorem dL_law_297 : decode cL_law 297 = .ok (.bipush 19, 2) := by decide +kernel
theorem dL_law_299 : decode cL_law 299 = .ok (.if_icmp .ge 7, 3) := by decide +kernel
theorem dL_law_302 : decode cL_law 302 = .ok (.iconst 1, 1) := by decide +kernel
theorem dL_law_303 : decode cL_law 303 = .ok (.goto 15, 3) := by decide +kernel
theorem dL_law_306 : decode cL_law 306 = .ok (.iload 11, 2) := by decide +kernel
theorem dL_law_308 : decode cL_law 308 = .ok (.bipush 21, 2) := by decide +kernel
theorem dL_law_310 : decode cL_law 310 = .ok (.if_icmp .ge 7, 3) := by decide +kernel
theorem dL_law_313 : decode cL_law 313 = .ok (.iconst 2, 1) := by decide +kernel
theorem dL_law_314 : decode cL_law 314 = .ok (.goto 4, 3) := by decide +kernel
theorem dL_law_317 : decode cL_law 317 = .ok (.iconst 3, 1) := by decide +kernel
theorem dL_law_318 : decode cL_law 318 = .ok (.iload 10, 2) := by decide +kernel
theorem dL_law_320 : decode cL_law 320 = .ok (.aload_n 2, 1) := by decide +kernel
theorem dL_law_321 : decode cL_law 321 = .ok (.aload 4, 2) := by decide +kernel
theorem dL_law_323 : decode cL_law 323 = .ok (.aload 5, 2) := by decide +kernel
theorem dL_law_325 : decode cL_law 325 = .ok (.aload 6, 2) := by decide +kernel
theorem dL_law_327 : decode cL_law 327 = .ok (.aload 7, 2) := by decide +kernel
theorem dL_law_329 : decode cL_law 329 = .ok (.invokestatic 155, 3) := by decide +kernel
theorem dL_law_332 : decode cL_law 332 = .ok (.istore 12, 2) := by decide +kernel
theorem dL_law_334 : decode cL_law 334 = .ok (.iload 12, 2) := by decide +kernel
theorem dL_law_336 : decode cL_law 336 = .ok (.ifCond .eq 17, 3) := by decide +kernel
theorem dL_law_339 : decode cL_law 339 = .ok (.aload_n 1, 1) := by decide +kernel
theorem dL_law_340 : decode cL_law 340 = .ok (.iload 10, 2) := by decide +kernel
theorem dL_law_342 : decode cL_law 342 = .ok (.aload_n 2, 1) := by decide +kernel
theorem dL_law_343 : decode cL_law 343 = .ok (.aload 4, 2) := by decide +kernel
theorem dL_law_345 : decode cL_law 345 = .ok (.aload 7, 2) := by decide +kernel
theorem dL_law_347 : decode cL_law 347 = .ok (.invokestatic 159, 3) := by decide +kernel
theorem dL_law_350 : decode cL_law 350 = .ok (.ifCond .ne 5, 3) := by decide +kernel
theorem dL_law_353 : decode cL_law 353 = .ok (.iconst 0, 1) := by decide +kernel
theorem dL_law_354 : decode cL_law 354 = .ok (.ireturn, 1) := by decide +kernel
theorem dL_law_355 : decode cL_law 355 = .ok (.iinc 8 1, 3) := by decide +kernel
theorem dL_law_358 : decode cL_law 358 = .ok (.goto (-291), 3) := by decide +kernel
theorem dL_law_361 : decode cL_law 361 = .ok (.iconst 1, 1) := by decide +kernel
theorem dL_law_362 : decode cL_law 362 = .ok (.ireturn, 1) := by decide +kernel
abbrev vwCl : List vw_C := [(RX0, TX0, 4), (RX1, TX1, 8), (RX2, TX2, 11), (RX3, TX3, 7)]

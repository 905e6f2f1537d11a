theorem dL_changes_576 : decode cL_changes 576 = .ok (.iload_n 2, 1) := by decide +kernel
theorem dL_changes_577 : decode cL_changes 577 = .ok (.iconst 3, 1) := by decide +kernel
theorem dL_changes_578 : decode cL_changes 578 = .ok (.ishr, 1) := by decide +kernel
theorem dL_changes_579 : decode cL_changes 579 = .ok (.bipush 6, 2) := by decide +kernel
theorem dL_changes_581 : decode cL_changes 581 = .ok (.invokestatic 119, 3) := by decide +kernel
theorem dL_changes_584 : decode cL_changes 584 = .ok (.istore 11, 2) := by decide +kernel
theorem dL_changes_586 : decode cL_changes 586 = .ok (.iload_n 3, 1) := by decide +kernel
theorem dL_changes_587 : decode cL_changes 587 = .ok (.ifCond .eq 17, 3) := by decide +kernel
theorem dL_changes_590 : decode cL_changes 590 = .ok (.iload_n 2, 1) := by decide +kernel
theorem dL_changes_591 : decode cL_changes 591 = .ok (.bipush 6, 2) := by decide +kernel
theorem dL_changes_593 : decode cL_changes 593 = .ok (.ishr, 1) := by decide +kernel
theorem dL_changes_594 : decode cL_changes 594 = .ok (.bipush 7, 2) := by decide +kernel
theorem dL_changes_596 : decode cL_changes 596 = .ok (.invokestatic 119, 3) := by decide +kernel
theorem dL_changes_599 : decode cL_changes 599 = .ok (.iconst 1, 1) := by decide +kernel
theorem dL_changes_600 : decode cL_changes 600 = .ok (.isub, 1) := by decide +kernel
theorem dL_changes_601 : decode cL_changes 601 = .ok (.goto 11, 3) := by decide +kernel
theorem dL_changes_604 : decode cL_changes 604 = .ok (.iload_n 2, 1) := by decide +kernel
theorem dL_changes_605 : decode cL_changes 605 = .ok (.bipush 6, 2) := by decide +kernel
theorem dL_changes_607 : decode cL_changes 607 = .ok (.ishr, 1) := by decide +kernel
theorem dL_changes_608 : decode cL_changes 608 = .ok (.iconst 4, 1) := by decide +kernel
theorem dL_changes_609 : decode cL_changes 609 = .ok (.invokestatic 119, 3) := by decide +kernel
theorem dL_changes_612 : decode cL_changes 612 = .ok (.istore 12, 2) := by decide +kernel
theorem dL_changes_614 : decode cL_changes 614 = .ok (.aload_n 0, 1) := by decide +kernel
theorem dL_changes_615 : decode cL_changes 615 = .ok (.iconst 1, 1) := by decide +kernel
theorem dL_changes_616 : decode cL_changes 616 = .ok (.iload 11, 2) := by decide +kernel
theorem dL_changes_618 : decode cL_changes 618 = .ok (.iload 12, 2) := by decide +kernel
theorem dL_changes_620 : decode cL_changes 620 = .ok (.iconst 0, 1) := by decide +kernel
theorem dL_changes_621 : decode cL_changes 621 = .ok (.invokestatic 135, 3) := by decide +kernel
theorem dL_changes_624 : decode cL_changes 624 = .ok (.istore 13, 2) := by decide +kernel
theorem dL_changes_626 : decode cL_changes 626 = .ok (.iload 11, 2) := by decide +kernel
theorem dL_changes_628 : decode cL_changes 628 = .ok (.ifCond .lt 20, 3) := by decide +kernel
theorem dL_changes_631 : decode cL_changes 631 = .ok (.iload 11, 2) := by decide +kernel
theorem dL_changes_633 : decode cL_changes 633 = .ok (.iconst 5, 1) := by decide +kernel
theorem dL_changes_634 : decode cL_changes 634 = .ok (.if_icmp .gt 14, 3) := by decide +kernel
theorem dL_changes_637 : decode cL_changes 637 = .ok (.iload 12, 2) := by decide +kernel
theorem dL_changes_639 : decode cL_changes 639 = .ok (.ifCond .lt 9, 3) := by decide +kernel
theorem dL_changes_642 : decode cL_changes 642 = .ok (.iload 12, 2) := by decide +kernel
theorem dL_changes_644 : decode cL_changes 644 = .ok (.iconst 3, 1) := by decide +kernel
theorem dL_changes_645 : decode cL_changes 645 = .ok (.if_icmp .le 26, 3) := by decide +kernel
theorem dL_changes_648 : decode cL_changes 648 = .ok (.iload 13, 2) := by decide +kernel
theorem dL_changes_650 : decode cL_changes 650 = .ok (.bipush (-82), 2) := by decide +kernel
theorem dL_changes_652 : decode cL_changes 652 = .ok (.if_icmp .ne 17, 3) := by decide +kernel
theorem dL_changes_655 : decode cL_changes 655 = .ok (.aload_n 0, 1) := by decide +kernel
theorem dL_changes_656 : decode cL_changes 656 = .ok (.invokestatic 124, 3) := by decide +kernel
theorem dL_changes_659 : decode cL_changes 659 = .ok (.lload 8, 2) := by decide +kernel
theorem dL_changes_661 : decode cL_changes 661 = .ok (.lcmp, 1) := by decide +kernel
theorem dL_changes_662 : decode cL_changes 662 = .ok (.ifCond .ne 7, 3) := by decide +kernel
theorem dL_changes_665 : decode cL_changes 665 = .ok (.iconst 1, 1) := by decide +kernel
theorem dL_changes_666 : decode cL_changes 666 = .ok (.goto 4, 3) := by decide +kernel
theorem dL_changes_669 : decode cL_changes 669 = .ok (.iconst 0, 1) := by decide +kernel
theorem dL_changes_670 : decode cL_changes 670 = .ok (.ireturn, 1) := by decide +kernel
theorem dL_changes_671 : decode cL_changes 671 = .ok (.iload 13, 2) := by decide +kernel
theorem dL_changes_673 : decode cL_changes 673 = .ok (.ifCond .lt 35, 3) := by decide +kernel
theorem dL_changes_676 : decode cL_changes 676 = .ok (.iload 13, 2) := by decide +kernel
theorem dL_changes_678 : decode cL_changes 678 = .ok (.iconst 4, 1) := by decide +kernel
theorem dL_changes_679 : decode cL_changes 679 = .ok (.if_icmp .ge 29, 3) := by decide +kernel
theorem dL_changes_682 : decode cL_changes 682 = .ok (.aload_n 0, 1) := by decide +kernel
theorem dL_changes_683 : decode cL_changes 683 = .ok (.iload 5, 2) := by decide +kernel
theorem dL_changes_685 : decode cL_changes 685 = .ok (.lload 6, 2) := by decide +kernel
theorem dL_changes_687 : decode cL_changes 687 = .ok (.iload 10, 2) := by decide +kernel
theorem dL_changes_689 : decode cL_changes 689 = .ok (.invokestatic 131, 3) := by decide +kernel
theorem dL_changes_692 : decode cL_changes 692 = .ok (.ifCond .eq 16, 3) := by decide +kernel
theorem dL_changes_695 : decode cL_changes 695 = .ok (.aload_n 0, 1) := by decide +kernel
theorem dL_changes_696 : decode cL_changes 696 = .ok (.invokevirtual 97, 3) := by decide +kernel
theorem dL_changes_699 : decode cL_changes 699 = .ok (.iload 12, 2) := by decide +kernel
theorem dL_changes_701 : decode cL_changes 701 = .ok (.if_icmp .gt 7, 3) := by decide +kernel
theorem dL_changes_704 : decode cL_changes 704 = .ok (.iconst 1, 1) := by decide +kernel
theorem dL_changes_705 : decode cL_changes 705 = .ok (.goto 4, 3) := by decide +kernel
theorem dL_changes_708 : decode cL_changes 708 = .ok (.iconst 0, 1) := by decide +kernel
theorem dL_changes_709 : decode cL_changes 709 = .ok (.istore 14, 2) := by decide +kernel
theorem dL_changes_711 : decode cL_changes 711 = .ok (.iload 14, 2) := by decide +kernel
theorem dL_changes_713 : decode cL_changes 713 = .ok (.ifCond .eq 32, 3) := by decide +kernel
theorem dL_changes_716 : decode cL_changes 716 = .ok (.iload_n 2, 1) := by decide +kernel
theorem dL_changes_717 : decode cL_changes 717 = .ok (.bipush 9, 2) := by decide +kernel
theorem dL_changes_719 : decode cL_changes 719 = .ok (.ishr, 1) := by decide +kernel
theorem dL_changes_720 : decode cL_changes 720 = .ok (.iconst 3, 1) := by decide +kernel
theorem dL_changes_721 : decode cL_changes 721 = .ok (.invokestatic 119, 3) := by decide +kernel
theorem dL_changes_724 : decode cL_changes 724 = .ok (.ifCond .eq 17, 3) := by decide +kernel
theorem dL_changes_727 : decode cL_changes 727 = .ok (.aload_n 0, 1) := by decide +kernel
theorem dL_changes_728 : decode cL_changes 728 = .ok (.iconst 1, 1) := by decide +kernel
theorem dL_changes_729 : decode cL_changes 729 = .ok (.iload 11, 2) := by decide +kernel
theorem dL_changes_731 : decode cL_changes 731 = .ok (.iconst 3, 1) := by decide +kernel
theorem dL_changes_732 : decode cL_changes 732 = .ok (.iconst 0, 1) := by decide +kernel
theorem dL_changes_733 : decode cL_changes 733 = .ok (.invokestatic 135, 3) := by decide +kernel
theorem dL_changes_736 : decode cL_changes 736 = .ok (.iload 12, 2) := by decide +kernel
theorem dL_changes_738 : decode cL_changes 738 = .ok (.if_icmp .ne 7, 3) := by decide +kernel
theorem dL_changes_741 : decode cL_changes 741 = .ok (.iconst 1, 1) := by decide +kernel
theorem dL_changes_742 : decode cL_changes 742 = .ok (.goto 4, 3) := by decide +kernel
theorem dL_changes_745 : decode cL_changes 745 = .ok (.iconst 0, 1) := by decide +kernel
theorem dL_changes_746 : decode cL_changes 746 = .ok (.ireturn, 1) := by decide +kernel
theorem dL_changes_747 : decode cL_changes 747 = .ok (.iload 4, 2) := by decide +kernel
theorem dL_changes_749 : decode cL_changes 749 = .ok (.bipush 7, 2) := by decide +kernel
theorem dL_changes_751 : decode cL_changes 751 = .ok (.if_icmp .ge 122, 3) := by decide +kernel
theorem dL_changes_754 : decode cL_changes 754 = .ok (.iload_n 3, 1) := by decide +kernel
theorem dL_changes_755 : decode cL_changes 755 = .ok (.ifCond .eq 16, 3) := by decide +kernel
theorem dL_changes_758 : decode cL_changes 758 = .ok (.iload_n 2, 1) := by decide +kernel
theorem dL_changes_759 : decode cL_changes 759 = .ok (.iconst 3, 1) := by decide +kernel
theorem dL_changes_760 : decode cL_changes 760 = .ok (.ishr, 1) := by decide +kernel
theorem dL_changes_761 : decode cL_changes 761 = .ok (.bipush 6, 2) := by decide +kernel
theorem dL_changes_763 : decode cL_changes 763 = .ok (.invokestatic 119, 3) := by decide +kernel
theorem dL_changes_766 : decode cL_changes 766 = .ok (.iconst 1, 1) := by decide +kernel
theorem dL_changes_767 : decode cL_changes 767 = .ok (.isub, 1) := by decide +kernel
theorem dL_changes_768 : decode cL_changes 768 = .ok (.goto 10, 3) := by decide +kernel
theorem dL_changes_771 : decode cL_changes 771 = .ok (.iload_n 2, 1) := by decide +kernel
theorem dL_changes_772 : decode cL_changes 772 = .ok (.iconst 3, 1) := by decide +kernel
theorem dL_changes_773 : decode cL_changes 773 = .ok (.ishr, 1) := by decide +kernel
theorem dL_changes_774 : decode cL_changes 774 = .ok (.iconst 3, 1) := by decide +kernel
theorem dL_changes_775 : decode cL_changes 775 = .ok (.invokestatic 119, 3) := by decide +kernel
theorem dL_changes_778 : decode cL_changes 778 = .ok (.istore 11, 2) := by decide +kernel
theorem dL_changes_780 : decode cL_changes 780 = .ok (.aload_n 0, 1) := by decide +kernel
theorem dL_changes_781 : decode cL_changes 781 = .ok (.bipush 7, 2) := by decide +kernel
theorem dL_changes_783 : decode cL_changes 783 = .ok (.iload 11, 2) := by decide +kernel
theorem dL_changes_785 : decode cL_changes 785 = .ok (.iconst 0, 1) := by decide +kernel
theorem dL_changes_786 : decode cL_changes 786 = .ok (.iconst 0, 1) := by decide +kernel
theorem dL_changes_787 : decode cL_changes 787 = .ok (.invokestatic 135, 3) := by decide +kernel
theorem dL_changes_790 : decode cL_changes 790 = .ok (.istore 12, 2) := by decide +kernel
theorem dL_changes_792 : decode cL_changes 792 = .ok (.iload 11, 2) := by decide +kernel
theorem dL_changes_794 : decode cL_changes 794 = .ok (.ifCond .lt 9, 3) := by decide +kernel
theorem dL_changes_797 : decode cL_changes 797 = .ok (.iload 11, 2) := by decide +kernel
theorem dL_changes_799 : decode cL_changes 799 = .ok (.iconst 2, 1) := by decide +kernel
theorem dL_changes_800 : decode cL_changes 800 = .ok (.if_icmp .le 28, 3) := by decide +kernel
theorem dL_changes_803 : decode cL_changes 803 = .ok (.iload 12, 2) := by decide +kernel
theorem dL_changes_805 : decode cL_changes 805 = .ok (.bipush (-82), 2) := by decide +kernel
theorem dL_changes_807 : decode cL_changes 807 = .ok (.if_icmp .ne 17, 3) := by decide +kernel
theorem dL_changes_810 : decode cL_changes 810 = .ok (.aload_n 0, 1) := by decide +kernel
theorem dL_changes_811 : decode cL_changes 811 = .ok (.invokestatic 124, 3) := by decide +kernel
theorem dL_changes_814 : decode cL_changes 814 = .ok (.lload 8, 2) := by decide +kernel
theorem dL_changes_816 : decode cL_changes 816 = .ok (.lcmp, 1) := by decide +kernel
theorem dL_changes_817 : decode cL_changes 817 = .ok (.ifCond .ne 7, 3) := by decide +kernel
theorem dL_changes_820 : decode cL_changes 820 = .ok (.iconst 1, 1) := by decide +kernel
theorem dL_changes_821 : decode cL_changes 821 = .ok (.goto 51, 3) := by decide +kernel
theorem dL_changes_824 : decode cL_changes 824 = .ok (.iconst 0, 1) := by decide +kernel
theorem dL_changes_825 : decode cL_changes 825 = .ok (.goto 47, 3) := by decide +kernel
theorem dL_changes_828 : decode cL_changes 828 = .ok (.iload 12, 2) := by decide +kernel
theorem dL_changes_830 : decode cL_changes 830 = .ok (.ifCond .lt 41, 3) := by decide +kernel
theorem dL_changes_833 : decode cL_changes 833 = .ok (.iload 12, 2) := by decide +kernel
theorem dL_changes_835 : decode cL_changes 835 = .ok (.iconst 3, 1) := by decide +kernel
theorem dL_changes_836 : decode cL_changes 836 = .ok (.if_icmp .ge 35, 3) := by decide +kernel
theorem dL_changes_839 : decode cL_changes 839 = .ok (.aload_n 0, 1) := by decide +kernel
theorem dL_changes_840 : decode cL_changes 840 = .ok (.iload 5, 2) := by decide +kernel
theorem dL_changes_842 : decode cL_changes 842 = .ok (.lload 6, 2) := by decide +kernel
theorem dL_changes_844 : decode cL_changes 844 = .ok (.iload 10, 2) := by decide +kernel
theorem dL_changes_846 : decode cL_changes 846 = .ok (.invokestatic 131, 3) := by decide +kernel
theorem dL_changes_849 : decode cL_changes 849 = .ok (.ifCond .eq 22, 3) := by decide +kernel
theorem dL_changes_852 : decode cL_changes 852 = .ok (.aload_n 0, 1) := by decide +kernel
theorem dL_changes_853 : decode cL_changes 853 = .ok (.bipush 7, 2) := by decide +kernel
theorem dL_changes_855 : decode cL_changes 855 = .ok (.iload 11, 2) := by decide +kernel
theorem dL_changes_857 : decode cL_changes 857 = .ok (.iconst 0, 1) := by decide +kernel
theorem dL_changes_858 : decode cL_changes 858 = .ok (.iconst 0, 1) := by decide +kernel
theorem dL_changes_859 : decode cL_changes 859 = .ok (.invokestatic 135, 3) := by decide +kernel
theorem dL_changes_862 : decode cL_changes 862 = .ok (.iload 11, 2) := by decide +kernel
theorem dL_changes_864 : decode cL_changes 864 = .ok (.if_icmp .ne 7, 3) := by decide +kernel
theorem dL_changes_867 : decode cL_changes 867 = .ok (.iconst 1, 1) := by decide +kernel
theorem dL_changes_868 : decode cL_changes 868 = .ok (.goto 4, 3) := by decide +kernel
theorem dL_changes_871 : decode cL_changes 871 = .ok (.iconst 0, 1) := by decide +kernel
theorem dL_changes_872 : decode cL_changes 872 = .ok (.ireturn, 1) := by decide +kernel
theorem dL_changes_873 : decode cL_changes 873 = .ok (.iload_n 3, 1) := by decide +kernel
theorem dL_changes_874 : decode cL_changes 874 = .ok (.ifCond .eq 16, 3) := by decide +kernel
theorem dL_changes_877 : decode cL_changes 877 = .ok (.iload_n 2, 1) := by decide +kernel
theorem dL_changes_878 : decode cL_changes 878 = .ok (.iconst 3, 1) := by decide +kernel
theorem dL_changes_879 : decode cL_changes 879 = .ok (.ishr, 1) := by decide +kernel
theorem dL_changes_880 : decode cL_changes 880 = .ok (.bipush 11, 2) := by decide +kernel
theorem dL_changes_882 : decode cL_changes 882 = .ok (.invokestatic 119, 3) := by decide +kernel
theorem dL_changes_885 : decode cL_changes 885 = .ok (.iconst 1, 1) := by decide +kernel
theorem dL_changes_886 : decode cL_changes 886 = .ok (.isub, 1) := by decide +kernel
theorem dL_changes_887 : decode cL_changes 887 = .ok (.goto 4, 3) := by decide +kernel
theorem dL_changes_890 : decode cL_changes 890 = .ok (.iconst 0, 1) := by decide +kernel
theorem dL_changes_891 : decode cL_changes 891 = .ok (.istore 11, 2) := by decide +kernel
theorem dL_changes_893 : decode cL_changes 893 = .ok (.aload_n 0, 1) := by decide +kernel
theorem dL_changes_894 : decode cL_changes 894 = .ok (.iconst 3, 1) := by decide +kernel
theorem dL_changes_895 : decode cL_changes 895 = .ok (.iload 11, 2) := by decide +kernel
theorem dL_changes_897 : decode cL_changes 897 = .ok (.iconst 0, 1) := by decide +kernel
theorem dL_changes_898 : decode cL_changes 898 = .ok (.iconst 0, 1) := by decide +kernel
theorem dL_changes_899 : decode cL_changes 899 = .ok (.invokestatic 135, 3) := by decide +kernel
theorem dL_changes_902 : decode cL_changes 902 = .ok (.istore 12, 2) := by decide +kernel
theorem dL_changes_904 : decode cL_changes 904 = .ok (.iload 12, 2) := by decide +kernel
theorem dL_changes_906 : decode cL_changes 906 = .ok (.ifCond .ge 33, 3) := by decide +kernel
theorem dL_changes_909 : decode cL_changes 909 = .ok (.iload 12, 2) := by decide +kernel
theorem dL_changes_911 : decode cL_changes 911 = .ok (.bipush (-81), 2) := by decide +kernel
theorem dL_changes_913 : decode cL_changes 913 = .ok (.if_icmp .eq 10, 3) := by decide +kernel
theorem dL_changes_916 : decode cL_changes 916 = .ok (.iload 12, 2) := by decide +kernel
theorem dL_changes_918 : decode cL_changes 918 = .ok (.bipush (-83), 2) := by decide +kernel
theorem dL_changes_920 : decode cL_changes 920 = .ok (.if_icmp .ne 17, 3) := by decide +kernel
theorem dL_changes_923 : decode cL_changes 923 = .ok (.aload_n 0, 1) := by decide +kernel
theorem dL_changes_924 : decode cL_changes 924 = .ok (.invokestatic 124, 3) := by decide +kernel
theorem dL_changes_927 : decode cL_changes 927 = .ok (.lload 8, 2) := by decide +kernel
theorem dL_changes_929 : decode cL_changes 929 = .ok (.lcmp, 1) := by decide +kernel
theorem dL_changes_930 : decode cL_changes 930 = .ok (.ifCond .ne 7, 3) := by decide +kernel
theorem dL_changes_933 : decode cL_changes 933 = .ok (.iconst 1, 1) := by decide +kernel
theorem dL_changes_934 : decode cL_changes 934 = .ok (.goto 4, 3) := by decide +kernel
theorem dL_changes_937 : decode cL_changes 937 = .ok (.iconst 0, 1) := by decide +kernel
theorem dL_changes_938 : decode cL_changes 938 = .ok (.ireturn, 1) := by decide +kernel
theorem dL_changes_939 : decode cL_changes 939 = .ok (.aload_n 0, 1) := by decide +kernel
theorem dL_changes_940 : decode cL_changes 940 = .ok (.iload 5, 2) := by decide +kernel
theorem dL_changes_942 : decode cL_changes 942 = .ok (.lload 6, 2) := by decide +kernel
theorem dL_changes_944 : decode cL_changes 944 = .ok (.iload 10, 2) := by decide +kernel
theorem dL_changes_946 : decode cL_changes 946 = .ok (.invokestatic 131, 3) := by decide +kernel
theorem dL_changes_949 : decode cL_changes 949 = .ok (.ifCond .eq 32, 3) := by decide +kernel
theorem dL_changes_952 : decode cL_changes 952 = .ok (.aload_n 0, 1) := by decide +kernel
theorem dL_changes_953 : decode cL_changes 953 = .ok (.iload 11, 2) := by decide +kernel
theorem dL_changes_955 : decode cL_changes 955 = .ok (.invokevirtual 138, 3) := by decide +kernel
theorem dL_changes_958 : decode cL_changes 958 = .ok (.ifCond .eq 23, 3) := by decide +kernel
theorem dL_changes_961 : decode cL_changes 961 = .ok (.aload_n 0, 1) := by decide +kernel
theorem dL_changes_962 : decode cL_changes 962 = .ok (.iconst 4, 1) := by decide +kernel
theorem dL_changes_963 : decode cL_changes 963 = .ok (.iload 11, 2) := by decide +kernel
theorem dL_changes_965 : decode cL_changes 965 = .ok (.iconst 0, 1) := by decide +kernel
theorem dL_changes_966 : decode cL_changes 966 = .ok (.iconst 0, 1) := by decide +kernel
theorem dL_changes_967 : decode cL_changes 967 = .ok (.invokestatic 135, 3) := by decide +kernel
theorem dL_changes_970 : decode cL_changes 970 = .ok (.iload 12, 2) := by decide +kernel
theorem dL_changes_972 : decode cL_changes 972 = .ok (.iconst 1, 1) := by decide +kernel
theorem dL_changes_973 : decode cL_changes 973 = .ok (.isub, 1) := by decide +kernel
theorem dL_changes_974 : decode cL_changes 974 = .ok (.if_icmp .ne 7, 3) := by decide +kernel
theorem dL_changes_977 : decode cL_changes 977 = .ok (.iconst 1, 1) := by decide +kernel
theorem dL_changes_978 : decode cL_changes 978 = .ok (.goto 4, 3) := by decide +kernel
theorem dL_changes_981 : decode cL_changes 981 = .ok (.iconst 0, 1) := by decide +kernel
theorem dL_changes_982 : decode cL_changes 982 = .ok (.ireturn, 1) := by decide +kernel
theorem dL_times_0 : decode cL_times 0 = .ok (.iload_n 2, 1) := by decide +kernel
theorem dL_times_1 : decode cL_times 1 = .ok (.bipush 8, 2) := by decide +kernel
theorem dL_times_3 : decode cL_times 3 = .ok (.invokestatic 119, 3) := by decide +kernel
theorem dL_times_6 : decode cL_times 6 = .ok (.istore 4, 2) := by decide +kernel
theorem dL_times_8 : decode cL_times 8 = .ok (.aload_n 0, 1) := by decide +kernel
theorem dL_times_9 : decode cL_times 9 = .ok (.invokevirtual 59, 3) := by decide +kernel
theorem dL_times_12 : decode cL_times 12 = .ok (.istore 5, 2) := by decide +kernel
theorem dL_times_14 : decode cL_times 14 = .ok (.aload_n 0, 1) := by decide +kernel
theorem dL_times_15 : decode cL_times 15 = .ok (.invokevirtual 64, 3) := by decide +kernel
theorem dL_times_18 : decode cL_times 18 = .ok (.lstore 6, 2) := by decide +kernel
theorem dL_times_20 : decode cL_times 20 = .ok (.aload_n 0, 1) := by decide +kernel
theorem dL_times_21 : decode cL_times 21 = .ok (.invokestatic 124, 3) := by decide +kernel
theorem dL_times_24 : decode cL_times 24 = .ok (.lstore 8, 2) := by decide +kernel
theorem dL_times_26 : decode cL_times 26 = .ok (.aload_n 0, 1) := by decide +kernel
theorem dL_times_27 : decode cL_times 27 = .ok (.invokevirtual 53, 3) := by decide +kernel
theorem dL_times_30 : decode cL_times 30 = .ok (.iload_n 3, 1) := by decide +kernel
theorem dL_times_31 : decode cL_times 31 = .ok (.ifCond .eq 17, 3) := by decide +kernel
theorem dL_times_34 : decode cL_times 34 = .ok (.iload_n 2, 1) := by decide +kernel
theorem dL_times_35 : decode cL_times 35 = .ok (.iconst 3, 1) := by decide +kernel
theorem dL_times_36 : decode cL_times 36 = .ok (.ishr, 1) := by decide +kernel
theorem dL_times_37 : decode cL_times 37 = .ok (.sipush 1010, 3) := by decide +kernel
theorem dL_times_40 : decode cL_times 40 = .ok (.invokestatic 119, 3) := by decide +kernel
theorem dL_times_43 : decode cL_times 43 = .ok (.iconst 5, 1) := by decide +kernel
theorem dL_times_44 : decode cL_times 44 = .ok (.isub, 1) := by decide +kernel
theorem dL_times_45 : decode cL_times 45 = .ok (.goto 11, 3) := by decide +kernel
theorem dL_times_48 : decode cL_times 48 = .ok (.iload_n 2, 1) := by decide +kernel
theorem dL_times_49 : decode cL_times 49 = .ok (.iconst 3, 1) := by decide +kernel
theorem dL_times_50 : decode cL_times 50 = .ok (.ishr, 1) := by decide +kernel
theorem dL_times_51 : decode cL_times 51 = .ok (.bipush 60, 2) := by decide +kernel
theorem dL_times_53 : decode cL_times 53 = .ok (.invokestatic 119, 3) := by decide +kernel
theorem dL_times_56 : decode cL_times 56 = .ok (.iadd, 1) := by decide +kernel
theorem dL_times_57 : decode cL_times 57 = .ok (.istore 10, 2) := by decide +kernel
theorem dL_times_59 : decode cL_times 59 = .ok (.iload_n 3, 1) := by decide +kernel
theorem dL_times_60 : decode cL_times 60 = .ok (.ifCond .eq 17, 3) := by decide +kernel
theorem dL_times_63 : decode cL_times 63 = .ok (.iload_n 2, 1) := by decide +kernel
theorem dL_times_64 : decode cL_times 64 = .ok (.bipush 9, 2) := by decide +kernel
theorem dL_times_66 : decode cL_times 66 = .ok (.ishr, 1) := by decide +kernel
theorem dL_times_67 : decode cL_times 67 = .ok (.bipush 56, 2) := by decide +kernel
theorem dL_times_69 : decode cL_times 69 = .ok (.invokestatic 119, 3) := by decide +kernel
theorem dL_times_72 : decode cL_times 72 = .ok (.iconst 3, 1) := by decide +kernel
theorem dL_times_73 : decode cL_times 73 = .ok (.isub, 1) := by decide +kernel
theorem dL_times_74 : decode cL_times 74 = .ok (.goto 14, 3) := by decide +kernel
theorem dL_times_77 : decode cL_times 77 = .ok (.iconst 1, 1) := by decide +kernel
theorem dL_times_78 : decode cL_times 78 = .ok (.iload_n 2, 1) := by decide +kernel
theorem dL_times_79 : decode cL_times 79 = .ok (.bipush 9, 2) := by decide +kernel
theorem dL_times_81 : decode cL_times 81 = .ok (.ishr, 1) := by decide +kernel
theorem dL_times_82 : decode cL_times 82 = .ok (.bipush 9, 2) := by decide +kernel
theorem dL_times_84 : decode cL_times 84 = .ok (.invokestatic 119, 3) := by decide +kernel
theorem dL_times_87 : decode cL_times 87 = .ok (.iadd, 1) := by decide +kernel
theorem dL_times_88 : decode cL_times 88 = .ok (.istore 11, 2) := by decide +kernel
theorem dL_times_90 : decode cL_times 90 = .ok (.aload_n 0, 1) := by decide +kernel
theorem dL_times_91 : decode cL_times 91 = .ok (.invokevirtual 94, 3) := by decide +kernel
theorem dL_times_94 : decode cL_times 94 = .ok (.istore 12, 2) := by decide +kernel
theorem dL_times_96 : decode cL_times 96 = .ok (.aload_n 0, 1) := by decide +kernel
theorem dL_times_97 : decode cL_times 97 = .ok (.invokevirtual 102, 3) := by decide +kernel
theorem dL_times_100 : decode cL_times 100 = .ok (.istore 13, 2) := by decide +kernel
theorem dL_times_102 : decode cL_times 102 = .ok (.iload 10, 2) := by decide +kernel
theorem dL_times_104 : decode cL_times 104 = .ok (.aload_n 0, 1) := by decide +kernel
theorem dL_times_105 : decode cL_times 105 = .ok (.invokevirtual 53, 3) := by decide +kernel
theorem dL_times_108 : decode cL_times 108 = .ok (.if_icmp .lt 29, 3) := by decide +kernel
theorem dL_times_111 : decode cL_times 111 = .ok (.iload 10, 2) := by decide +kernel
theorem dL_times_113 : decode cL_times 113 = .ok (.aload_n 0, 1) := by decide +kernel
theorem dL_times_114 : decode cL_times 114 = .ok (.invokevirtual 53, 3) := by decide +kernel
theorem dL_times_117 : decode cL_times 117 = .ok (.sipush 1000, 3) := by decide +kernel
theorem dL_times_120 : decode cL_times 120 = .ok (.iadd, 1) := by decide +kernel
theorem dL_times_121 : decode cL_times 121 = .ok (.if_icmp .gt 16, 3) := by decide +kernel
theorem dL_times_124 : decode cL_times 124 = .ok (.iload 11, 2) := by decide +kernel
theorem dL_times_126 : decode cL_times 126 = .ok (.iconst 1, 1) := by decide +kernel
theorem dL_times_127 : decode cL_times 127 = .ok (.if_icmp .lt 10, 3) := by decide +kernel
theorem dL_times_130 : decode cL_times 130 = .ok (.iload 11, 2) := by decide +kernel
theorem dL_times_132 : decode cL_times 132 = .ok (.bipush 50, 2) := by decide +kernel
theorem dL_times_134 : decode cL_times 134 = .ok (.if_icmp .le 7, 3) := by decide +kernel
theorem dL_times_137 : decode cL_times 137 = .ok (.iconst 1, 1) := by decide +kernel
theorem dL_times_138 : decode cL_times 138 = .ok (.goto 4, 3) := by decide +kernel

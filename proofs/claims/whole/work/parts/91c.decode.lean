/-! the decode rows of the law, 1 -/
theorem dL_law__629 : decode cL_law_ 629 = .ok (.lcmp, 1) := by decide +kernel
theorem dL_law__630 : decode cL_law_ 630 = .ok (.ifCond .eq 5, 3) := by decide +kernel
theorem dL_law__633 : decode cL_law_ 633 = .ok (.iconst 0, 1) := by decide +kernel
theorem dL_law__634 : decode cL_law_ 634 = .ok (.ireturn, 1) := by decide +kernel
theorem dL_law__635 : decode cL_law_ 635 = .ok (.goto 1434, 3) := by decide +kernel
theorem dL_law__638 : decode cL_law_ 638 = .ok (.aload_n 1, 1) := by decide +kernel
theorem dL_law__639 : decode cL_law_ 639 = .ok (.aload_n 0, 1) := by decide +kernel
theorem dL_law__640 : decode cL_law_ 640 = .ok (.iload 4, 2) := by decide +kernel
theorem dL_law__642 : decode cL_law_ 642 = .ok (.iconst 1, 1) := by decide +kernel
theorem dL_law__643 : decode cL_law_ 643 = .ok (.iadd, 1) := by decide +kernel
theorem dL_law__644 : decode cL_law_ 644 = .ok (.iaload, 1) := by decide +kernel
theorem dL_law__645 : decode cL_law_ 645 = .ok (.aload_n 0, 1) := by decide +kernel
theorem dL_law__646 : decode cL_law_ 646 = .ok (.iload 4, 2) := by decide +kernel
theorem dL_law__648 : decode cL_law_ 648 = .ok (.iconst 2, 1) := by decide +kernel
theorem dL_law__649 : decode cL_law_ 649 = .ok (.iadd, 1) := by decide +kernel
theorem dL_law__650 : decode cL_law_ 650 = .ok (.iaload, 1) := by decide +kernel
theorem dL_law__651 : decode cL_law_ 651 = .ok (.aload_n 3, 1) := by decide +kernel
theorem dL_law__652 : decode cL_law_ 652 = .ok (.invokestatic 128, 3) := by decide +kernel
theorem dL_law__655 : decode cL_law_ 655 = .ok (.istore 5, 2) := by decide +kernel
theorem dL_law__657 : decode cL_law_ 657 = .ok (.aload_n 2, 1) := by decide +kernel
theorem dL_law__658 : decode cL_law_ 658 = .ok (.aload_n 0, 1) := by decide +kernel
theorem dL_law__659 : decode cL_law_ 659 = .ok (.iload 4, 2) := by decide +kernel
theorem dL_law__661 : decode cL_law_ 661 = .ok (.iconst 1, 1) := by decide +kernel
theorem dL_law__662 : decode cL_law_ 662 = .ok (.iadd, 1) := by decide +kernel
theorem dL_law__663 : decode cL_law_ 663 = .ok (.iaload, 1) := by decide +kernel
theorem dL_law__664 : decode cL_law_ 664 = .ok (.aload_n 0, 1) := by decide +kernel
theorem dL_law__665 : decode cL_law_ 665 = .ok (.iload 4, 2) := by decide +kernel
theorem dL_law__667 : decode cL_law_ 667 = .ok (.iconst 2, 1) := by decide +kernel
theorem dL_law__668 : decode cL_law_ 668 = .ok (.iadd, 1) := by decide +kernel
theorem dL_law__669 : decode cL_law_ 669 = .ok (.iaload, 1) := by decide +kernel
theorem dL_law__670 : decode cL_law_ 670 = .ok (.invokevirtual 130, 3) := by decide +kernel
theorem dL_law__673 : decode cL_law_ 673 = .ok (.istore 6, 2) := by decide +kernel
theorem dL_law__675 : decode cL_law_ 675 = .ok (.aload_n 2, 1) := by decide +kernel
theorem dL_law__676 : decode cL_law_ 676 = .ok (.invokevirtual 104, 3) := by decide +kernel
theorem dL_law__679 : decode cL_law_ 679 = .ok (.iload 5, 2) := by decide +kernel
theorem dL_law__681 : decode cL_law_ 681 = .ok (.if_icmp .eq 5, 3) := by decide +kernel
theorem dL_law__684 : decode cL_law_ 684 = .ok (.iconst 0, 1) := by decide +kernel
theorem dL_law__685 : decode cL_law_ 685 = .ok (.ireturn, 1) := by decide +kernel
theorem dL_law__686 : decode cL_law_ 686 = .ok (.iload 5, 2) := by decide +kernel
theorem dL_law__688 : decode cL_law_ 688 = .ok (.ifCond .ne 15, 3) := by decide +kernel
theorem dL_law__691 : decode cL_law_ 691 = .ok (.aload_n 3, 1) := by decide +kernel
theorem dL_law__692 : decode cL_law_ 692 = .ok (.iconst 0, 1) := by decide +kernel
theorem dL_law__693 : decode cL_law_ 693 = .ok (.laload, 1) := by decide +kernel
theorem dL_law__694 : decode cL_law_ 694 = .ok (.iload 6, 2) := by decide +kernel
theorem dL_law__696 : decode cL_law_ 696 = .ok (.i2l, 1) := by decide +kernel
theorem dL_law__697 : decode cL_law_ 697 = .ok (.lcmp, 1) := by decide +kernel
theorem dL_law__698 : decode cL_law_ 698 = .ok (.ifCond .eq 5, 3) := by decide +kernel
theorem dL_law__701 : decode cL_law_ 701 = .ok (.iconst 0, 1) := by decide +kernel
theorem dL_law__702 : decode cL_law_ 702 = .ok (.ireturn, 1) := by decide +kernel
theorem dL_law__703 : decode cL_law_ 703 = .ok (.goto 1366, 3) := by decide +kernel
theorem dL_law__706 : decode cL_law_ 706 = .ok (.aload_n 1, 1) := by decide +kernel
theorem dL_law__707 : decode cL_law_ 707 = .ok (.aload_n 0, 1) := by decide +kernel
theorem dL_law__708 : decode cL_law_ 708 = .ok (.iload 4, 2) := by decide +kernel
theorem dL_law__710 : decode cL_law_ 710 = .ok (.iconst 1, 1) := by decide +kernel
theorem dL_law__711 : decode cL_law_ 711 = .ok (.iadd, 1) := by decide +kernel
theorem dL_law__712 : decode cL_law_ 712 = .ok (.iaload, 1) := by decide +kernel
theorem dL_law__713 : decode cL_law_ 713 = .ok (.aload_n 0, 1) := by decide +kernel
theorem dL_law__714 : decode cL_law_ 714 = .ok (.iload 4, 2) := by decide +kernel
theorem dL_law__716 : decode cL_law_ 716 = .ok (.iconst 2, 1) := by decide +kernel
theorem dL_law__717 : decode cL_law_ 717 = .ok (.iadd, 1) := by decide +kernel
theorem dL_law__718 : decode cL_law_ 718 = .ok (.iaload, 1) := by decide +kernel
theorem dL_law__719 : decode cL_law_ 719 = .ok (.aload_n 0, 1) := by decide +kernel
theorem dL_law__720 : decode cL_law_ 720 = .ok (.iload 4, 2) := by decide +kernel
theorem dL_law__722 : decode cL_law_ 722 = .ok (.iconst 3, 1) := by decide +kernel
theorem dL_law__723 : decode cL_law_ 723 = .ok (.iadd, 1) := by decide +kernel
theorem dL_law__724 : decode cL_law_ 724 = .ok (.iaload, 1) := by decide +kernel
theorem dL_law__725 : decode cL_law_ 725 = .ok (.aload_n 3, 1) := by decide +kernel
theorem dL_law__726 : decode cL_law_ 726 = .ok (.invokestatic 131, 3) := by decide +kernel
theorem dL_law__729 : decode cL_law_ 729 = .ok (.istore 5, 2) := by decide +kernel
theorem dL_law__731 : decode cL_law_ 731 = .ok (.aload_n 2, 1) := by decide +kernel
theorem dL_law__732 : decode cL_law_ 732 = .ok (.aload_n 0, 1) := by decide +kernel
theorem dL_law__733 : decode cL_law_ 733 = .ok (.iload 4, 2) := by decide +kernel
theorem dL_law__735 : decode cL_law_ 735 = .ok (.iconst 1, 1) := by decide +kernel
theorem dL_law__736 : decode cL_law_ 736 = .ok (.iadd, 1) := by decide +kernel
theorem dL_law__737 : decode cL_law_ 737 = .ok (.iaload, 1) := by decide +kernel
theorem dL_law__738 : decode cL_law_ 738 = .ok (.aload_n 0, 1) := by decide +kernel
theorem dL_law__739 : decode cL_law_ 739 = .ok (.iload 4, 2) := by decide +kernel
theorem dL_law__741 : decode cL_law_ 741 = .ok (.iconst 2, 1) := by decide +kernel
theorem dL_law__742 : decode cL_law_ 742 = .ok (.iadd, 1) := by decide +kernel
theorem dL_law__743 : decode cL_law_ 743 = .ok (.iaload, 1) := by decide +kernel
theorem dL_law__744 : decode cL_law_ 744 = .ok (.aload_n 0, 1) := by decide +kernel
theorem dL_law__745 : decode cL_law_ 745 = .ok (.iload 4, 2) := by decide +kernel
theorem dL_law__747 : decode cL_law_ 747 = .ok (.iconst 3, 1) := by decide +kernel
theorem dL_law__748 : decode cL_law_ 748 = .ok (.iadd, 1) := by decide +kernel
theorem dL_law__749 : decode cL_law_ 749 = .ok (.iaload, 1) := by decide +kernel
theorem dL_law__750 : decode cL_law_ 750 = .ok (.invokevirtual 134, 3) := by decide +kernel
theorem dL_law__753 : decode cL_law_ 753 = .ok (.istore 6, 2) := by decide +kernel
theorem dL_law__755 : decode cL_law_ 755 = .ok (.aload_n 2, 1) := by decide +kernel
theorem dL_law__756 : decode cL_law_ 756 = .ok (.invokevirtual 104, 3) := by decide +kernel
theorem dL_law__759 : decode cL_law_ 759 = .ok (.iload 5, 2) := by decide +kernel
theorem dL_law__761 : decode cL_law_ 761 = .ok (.if_icmp .eq 5, 3) := by decide +kernel
theorem dL_law__764 : decode cL_law_ 764 = .ok (.iconst 0, 1) := by decide +kernel
theorem dL_law__765 : decode cL_law_ 765 = .ok (.ireturn, 1) := by decide +kernel
theorem dL_law__766 : decode cL_law_ 766 = .ok (.iload 5, 2) := by decide +kernel
theorem dL_law__768 : decode cL_law_ 768 = .ok (.ifCond .ne 15, 3) := by decide +kernel
theorem dL_law__771 : decode cL_law_ 771 = .ok (.aload_n 3, 1) := by decide +kernel
theorem dL_law__772 : decode cL_law_ 772 = .ok (.iconst 0, 1) := by decide +kernel
theorem dL_law__773 : decode cL_law_ 773 = .ok (.laload, 1) := by decide +kernel
theorem dL_law__774 : decode cL_law_ 774 = .ok (.iload 6, 2) := by decide +kernel
theorem dL_law__776 : decode cL_law_ 776 = .ok (.i2l, 1) := by decide +kernel
theorem dL_law__777 : decode cL_law_ 777 = .ok (.lcmp, 1) := by decide +kernel
theorem dL_law__778 : decode cL_law_ 778 = .ok (.ifCond .eq 5, 3) := by decide +kernel
theorem dL_law__781 : decode cL_law_ 781 = .ok (.iconst 0, 1) := by decide +kernel
theorem dL_law__782 : decode cL_law_ 782 = .ok (.ireturn, 1) := by decide +kernel
theorem dL_law__783 : decode cL_law_ 783 = .ok (.goto 1286, 3) := by decide +kernel
theorem dL_law__786 : decode cL_law_ 786 = .ok (.aload_n 1, 1) := by decide +kernel
theorem dL_law__787 : decode cL_law_ 787 = .ok (.aload_n 0, 1) := by decide +kernel
theorem dL_law__788 : decode cL_law_ 788 = .ok (.iload 4, 2) := by decide +kernel
theorem dL_law__790 : decode cL_law_ 790 = .ok (.iconst 1, 1) := by decide +kernel
theorem dL_law__791 : decode cL_law_ 791 = .ok (.iadd, 1) := by decide +kernel
theorem dL_law__792 : decode cL_law_ 792 = .ok (.iaload, 1) := by decide +kernel
theorem dL_law__793 : decode cL_law_ 793 = .ok (.aload_n 0, 1) := by decide +kernel
theorem dL_law__794 : decode cL_law_ 794 = .ok (.iload 4, 2) := by decide +kernel
theorem dL_law__796 : decode cL_law_ 796 = .ok (.iconst 2, 1) := by decide +kernel
theorem dL_law__797 : decode cL_law_ 797 = .ok (.iadd, 1) := by decide +kernel
theorem dL_law__798 : decode cL_law_ 798 = .ok (.iaload, 1) := by decide +kernel
theorem dL_law__799 : decode cL_law_ 799 = .ok (.aload_n 3, 1) := by decide +kernel
theorem dL_law__800 : decode cL_law_ 800 = .ok (.invokestatic 135, 3) := by decide +kernel
theorem dL_law__803 : decode cL_law_ 803 = .ok (.istore 5, 2) := by decide +kernel
theorem dL_law__805 : decode cL_law_ 805 = .ok (.aload_n 2, 1) := by decide +kernel
theorem dL_law__806 : decode cL_law_ 806 = .ok (.aload_n 0, 1) := by decide +kernel
theorem dL_law__807 : decode cL_law_ 807 = .ok (.iload 4, 2) := by decide +kernel
theorem dL_law__809 : decode cL_law_ 809 = .ok (.iconst 1, 1) := by decide +kernel
theorem dL_law__810 : decode cL_law_ 810 = .ok (.iadd, 1) := by decide +kernel
theorem dL_law__811 : decode cL_law_ 811 = .ok (.iaload, 1) := by decide +kernel
theorem dL_law__812 : decode cL_law_ 812 = .ok (.aload_n 0, 1) := by decide +kernel
theorem dL_law__813 : decode cL_law_ 813 = .ok (.iload 4, 2) := by decide +kernel
theorem dL_law__815 : decode cL_law_ 815 = .ok (.iconst 2, 1) := by decide +kernel
theorem dL_law__816 : decode cL_law_ 816 = .ok (.iadd, 1) := by decide +kernel
theorem dL_law__817 : decode cL_law_ 817 = .ok (.iaload, 1) := by decide +kernel
theorem dL_law__818 : decode cL_law_ 818 = .ok (.invokevirtual 137, 3) := by decide +kernel
theorem dL_law__821 : decode cL_law_ 821 = .ok (.istore 6, 2) := by decide +kernel
theorem dL_law__823 : decode cL_law_ 823 = .ok (.aload_n 2, 1) := by decide +kernel
theorem dL_law__824 : decode cL_law_ 824 = .ok (.invokevirtual 104, 3) := by decide +kernel
theorem dL_law__827 : decode cL_law_ 827 = .ok (.iload 5, 2) := by decide +kernel
theorem dL_law__829 : decode cL_law_ 829 = .ok (.if_icmp .eq 5, 3) := by decide +kernel
theorem dL_law__832 : decode cL_law_ 832 = .ok (.iconst 0, 1) := by decide +kernel
theorem dL_law__833 : decode cL_law_ 833 = .ok (.ireturn, 1) := by decide +kernel
theorem dL_law__834 : decode cL_law_ 834 = .ok (.iload 5, 2) := by decide +kernel
theorem dL_law__836 : decode cL_law_ 836 = .ok (.ifCond .ne 15, 3) := by decide +kernel
theorem dL_law__839 : decode cL_law_ 839 = .ok (.aload_n 3, 1) := by decide +kernel
theorem dL_law__840 : decode cL_law_ 840 = .ok (.iconst 0, 1) := by decide +kernel
theorem dL_law__841 : decode cL_law_ 841 = .ok (.laload, 1) := by decide +kernel
theorem dL_law__842 : decode cL_law_ 842 = .ok (.iload 6, 2) := by decide +kernel
theorem dL_law__844 : decode cL_law_ 844 = .ok (.i2l, 1) := by decide +kernel
theorem dL_law__845 : decode cL_law_ 845 = .ok (.lcmp, 1) := by decide +kernel
theorem dL_law__846 : decode cL_law_ 846 = .ok (.ifCond .eq 5, 3) := by decide +kernel
theorem dL_law__849 : decode cL_law_ 849 = .ok (.iconst 0, 1) := by decide +kernel
theorem dL_law__850 : decode cL_law_ 850 = .ok (.ireturn, 1) := by decide +kernel
theorem dL_law__851 : decode cL_law_ 851 = .ok (.goto 1218, 3) := by decide +kernel
theorem dL_law__854 : decode cL_law_ 854 = .ok (.aload_n 1, 1) := by decide +kernel
theorem dL_law__855 : decode cL_law_ 855 = .ok (.aload_n 0, 1) := by decide +kernel
theorem dL_law__856 : decode cL_law_ 856 = .ok (.iload 4, 2) := by decide +kernel
theorem dL_law__858 : decode cL_law_ 858 = .ok (.iconst 1, 1) := by decide +kernel
theorem dL_law__859 : decode cL_law_ 859 = .ok (.iadd, 1) := by decide +kernel
theorem dL_law__860 : decode cL_law_ 860 = .ok (.iaload, 1) := by decide +kernel
theorem dL_law__861 : decode cL_law_ 861 = .ok (.aload_n 0, 1) := by decide +kernel
theorem dL_law__862 : decode cL_law_ 862 = .ok (.iload 4, 2) := by decide +kernel
theorem dL_law__864 : decode cL_law_ 864 = .ok (.iconst 2, 1) := by decide +kernel
theorem dL_law__865 : decode cL_law_ 865 = .ok (.iadd, 1) := by decide +kernel
theorem dL_law__866 : decode cL_law_ 866 = .ok (.iaload, 1) := by decide +kernel
theorem dL_law__867 : decode cL_law_ 867 = .ok (.aload_n 0, 1) := by decide +kernel
theorem dL_law__868 : decode cL_law_ 868 = .ok (.iload 4, 2) := by decide +kernel
theorem dL_law__870 : decode cL_law_ 870 = .ok (.iconst 3, 1) := by decide +kernel
theorem dL_law__871 : decode cL_law_ 871 = .ok (.iadd, 1) := by decide +kernel
theorem dL_law__872 : decode cL_law_ 872 = .ok (.iaload, 1) := by decide +kernel
theorem dL_law__873 : decode cL_law_ 873 = .ok (.aload_n 0, 1) := by decide +kernel
theorem dL_law__874 : decode cL_law_ 874 = .ok (.iload 4, 2) := by decide +kernel
theorem dL_law__876 : decode cL_law_ 876 = .ok (.iconst 4, 1) := by decide +kernel
theorem dL_law__877 : decode cL_law_ 877 = .ok (.iadd, 1) := by decide +kernel
theorem dL_law__878 : decode cL_law_ 878 = .ok (.iaload, 1) := by decide +kernel
theorem dL_law__879 : decode cL_law_ 879 = .ok (.aload_n 3, 1) := by decide +kernel
theorem dL_law__880 : decode cL_law_ 880 = .ok (.invokestatic 138, 3) := by decide +kernel
theorem dL_law__883 : decode cL_law_ 883 = .ok (.istore 5, 2) := by decide +kernel
theorem dL_law__885 : decode cL_law_ 885 = .ok (.aload_n 2, 1) := by decide +kernel
theorem dL_law__886 : decode cL_law_ 886 = .ok (.aload_n 0, 1) := by decide +kernel
theorem dL_law__887 : decode cL_law_ 887 = .ok (.iload 4, 2) := by decide +kernel
theorem dL_law__889 : decode cL_law_ 889 = .ok (.iconst 1, 1) := by decide +kernel
theorem dL_law__890 : decode cL_law_ 890 = .ok (.iadd, 1) := by decide +kernel
theorem dL_law__891 : decode cL_law_ 891 = .ok (.iaload, 1) := by decide +kernel
theorem dL_law__892 : decode cL_law_ 892 = .ok (.aload_n 0, 1) := by decide +kernel
theorem dL_law__893 : decode cL_law_ 893 = .ok (.iload 4, 2) := by decide +kernel
theorem dL_law__895 : decode cL_law_ 895 = .ok (.iconst 2, 1) := by decide +kernel
theorem dL_law__896 : decode cL_law_ 896 = .ok (.iadd, 1) := by decide +kernel
theorem dL_law__897 : decode cL_law_ 897 = .ok (.iaload, 1) := by decide +kernel
theorem dL_law__898 : decode cL_law_ 898 = .ok (.aload_n 0, 1) := by decide +kernel
theorem dL_law__899 : decode cL_law_ 899 = .ok (.iload 4, 2) := by decide +kernel
theorem dL_law__901 : decode cL_law_ 901 = .ok (.iconst 3, 1) := by decide +kernel
theorem dL_law__902 : decode cL_law_ 902 = .ok (.iadd, 1) := by decide +kernel
theorem dL_law__903 : decode cL_law_ 903 = .ok (.iaload, 1) := by decide +kernel
theorem dL_law__904 : decode cL_law_ 904 = .ok (.aload_n 0, 1) := by decide +kernel
theorem dL_law__905 : decode cL_law_ 905 = .ok (.iload 4, 2) := by decide +kernel
theorem dL_law__907 : decode cL_law_ 907 = .ok (.iconst 4, 1) := by decide +kernel
theorem dL_law__908 : decode cL_law_ 908 = .ok (.iadd, 1) := by decide +kernel
theorem dL_law__909 : decode cL_law_ 909 = .ok (.iaload, 1) := by decide +kernel
theorem dL_law__910 : decode cL_law_ 910 = .ok (.invokevirtual 141, 3) := by decide +kernel
theorem dL_law__913 : decode cL_law_ 913 = .ok (.istore 6, 2) := by decide +kernel
theorem dL_law__915 : decode cL_law_ 915 = .ok (.aload_n 2, 1) := by decide +kernel
theorem dL_law__916 : decode cL_law_ 916 = .ok (.invokevirtual 104, 3) := by decide +kernel
theorem dL_law__919 : decode cL_law_ 919 = .ok (.iload 5, 2) := by decide +kernel
theorem dL_law__921 : decode cL_law_ 921 = .ok (.if_icmp .eq 5, 3) := by decide +kernel
theorem dL_law__924 : decode cL_law_ 924 = .ok (.iconst 0, 1) := by decide +kernel
theorem dL_law__925 : decode cL_law_ 925 = .ok (.ireturn, 1) := by decide +kernel
theorem dL_law__926 : decode cL_law_ 926 = .ok (.iload 5, 2) := by decide +kernel
theorem dL_law__928 : decode cL_law_ 928 = .ok (.ifCond .ne 15, 3) := by decide +kernel
theorem dL_law__931 : decode cL_law_ 931 = .ok (.aload_n 3, 1) := by decide +kernel
theorem dL_law__932 : decode cL_law_ 932 = .ok (.iconst 0, 1) := by decide +kernel
theorem dL_law__933 : decode cL_law_ 933 = .ok (.laload, 1) := by decide +kernel
theorem dL_law__934 : decode cL_law_ 934 = .ok (.iload 6, 2) := by decide +kernel
theorem dL_law__936 : decode cL_law_ 936 = .ok (.i2l, 1) := by decide +kernel
theorem dL_law__937 : decode cL_law_ 937 = .ok (.lcmp, 1) := by decide +kernel
theorem dL_law__938 : decode cL_law_ 938 = .ok (.ifCond .eq 5, 3) := by decide +kernel
theorem dL_law__941 : decode cL_law_ 941 = .ok (.iconst 0, 1) := by decide +kernel
theorem dL_law__942 : decode cL_law_ 942 = .ok (.ireturn, 1) := by decide +kernel
theorem dL_law__943 : decode cL_law_ 943 = .ok (.goto 1126, 3) := by decide +kernel
theorem dL_law__946 : decode cL_law_ 946 = .ok (.aload_n 1, 1) := by decide +kernel
theorem dL_law__947 : decode cL_law_ 947 = .ok (.invokevirtual 142, 3) := by decide +kernel
theorem dL_law__950 : decode cL_law_ 950 = .ok (.aload_n 2, 1) := by decide +kernel
theorem dL_law__951 : decode cL_law_ 951 = .ok (.invokevirtual 145, 3) := by decide +kernel
theorem dL_law__954 : decode cL_law_ 954 = .ok (.if_icmp .eq 1115, 3) := by decide +kernel
theorem dL_law__957 : decode cL_law_ 957 = .ok (.iconst 0, 1) := by decide +kernel
theorem dL_law__958 : decode cL_law_ 958 = .ok (.ireturn, 1) := by decide +kernel
theorem dL_law__959 : decode cL_law_ 959 = .ok (.aload_n 1, 1) := by decide +kernel
theorem dL_law__960 : decode cL_law_ 960 = .ok (.aload_n 0, 1) := by decide +kernel
theorem dL_law__961 : decode cL_law_ 961 = .ok (.iload 4, 2) := by decide +kernel
theorem dL_law__963 : decode cL_law_ 963 = .ok (.iconst 1, 1) := by decide +kernel
theorem dL_law__964 : decode cL_law_ 964 = .ok (.iadd, 1) := by decide +kernel
theorem dL_law__965 : decode cL_law_ 965 = .ok (.iaload, 1) := by decide +kernel
theorem dL_law__966 : decode cL_law_ 966 = .ok (.aload_n 0, 1) := by decide +kernel
theorem dL_law__967 : decode cL_law_ 967 = .ok (.iload 4, 2) := by decide +kernel
theorem dL_law__969 : decode cL_law_ 969 = .ok (.iconst 2, 1) := by decide +kernel
theorem dL_law__970 : decode cL_law_ 970 = .ok (.iadd, 1) := by decide +kernel
theorem dL_law__971 : decode cL_law_ 971 = .ok (.iaload, 1) := by decide +kernel
theorem dL_law__972 : decode cL_law_ 972 = .ok (.aload_n 3, 1) := by decide +kernel
theorem dL_law__973 : decode cL_law_ 973 = .ok (.invokestatic 146, 3) := by decide +kernel
theorem dL_law__976 : decode cL_law_ 976 = .ok (.istore 5, 2) := by decide +kernel
theorem dL_law__978 : decode cL_law_ 978 = .ok (.aload_n 2, 1) := by decide +kernel
theorem dL_law__979 : decode cL_law_ 979 = .ok (.aload_n 0, 1) := by decide +kernel
theorem dL_law__980 : decode cL_law_ 980 = .ok (.iload 4, 2) := by decide +kernel
theorem dL_law__982 : decode cL_law_ 982 = .ok (.iconst 1, 1) := by decide +kernel
theorem dL_law__983 : decode cL_law_ 983 = .ok (.iadd, 1) := by decide +kernel
theorem dL_law__984 : decode cL_law_ 984 = .ok (.iaload, 1) := by decide +kernel
theorem dL_law__985 : decode cL_law_ 985 = .ok (.aload_n 0, 1) := by decide +kernel
theorem dL_law__986 : decode cL_law_ 986 = .ok (.iload 4, 2) := by decide +kernel
theorem dL_law__988 : decode cL_law_ 988 = .ok (.iconst 2, 1) := by decide +kernel
theorem dL_law__989 : decode cL_law_ 989 = .ok (.iadd, 1) := by decide +kernel
theorem dL_law__990 : decode cL_law_ 990 = .ok (.iaload, 1) := by decide +kernel
theorem dL_law__991 : decode cL_law_ 991 = .ok (.invokevirtual 148, 3) := by decide +kernel
theorem dL_law__994 : decode cL_law_ 994 = .ok (.istore 6, 2) := by decide +kernel
theorem dL_law__996 : decode cL_law_ 996 = .ok (.aload_n 2, 1) := by decide +kernel
theorem dL_law__997 : decode cL_law_ 997 = .ok (.invokevirtual 104, 3) := by decide +kernel
theorem dL_law__1000 : decode cL_law_ 1000 = .ok (.iload 5, 2) := by decide +kernel
theorem dL_law__1002 : decode cL_law_ 1002 = .ok (.if_icmp .eq 5, 3) := by decide +kernel
theorem dL_law__1005 : decode cL_law_ 1005 = .ok (.iconst 0, 1) := by decide +kernel
theorem dL_law__1006 : decode cL_law_ 1006 = .ok (.ireturn, 1) := by decide +kernel
theorem dL_law__1007 : decode cL_law_ 1007 = .ok (.iload 5, 2) := by decide +kernel
theorem dL_law__1009 : decode cL_law_ 1009 = .ok (.ifCond .ne 15, 3) := by decide +kernel
theorem dL_law__1012 : decode cL_law_ 1012 = .ok (.aload_n 3, 1) := by decide +kernel
theorem dL_law__1013 : decode cL_law_ 1013 = .ok (.iconst 0, 1) := by decide +kernel
theorem dL_law__1014 : decode cL_law_ 1014 = .ok (.laload, 1) := by decide +kernel
theorem dL_law__1015 : decode cL_law_ 1015 = .ok (.iload 6, 2) := by decide +kernel
theorem dL_law__1017 : decode cL_law_ 1017 = .ok (.i2l, 1) := by decide +kernel
theorem dL_law__1018 : decode cL_law_ 1018 = .ok (.lcmp, 1) := by decide +kernel
theorem dL_law__1019 : decode cL_law_ 1019 = .ok (.ifCond .eq 5, 3) := by decide +kernel
theorem dL_law__1022 : decode cL_law_ 1022 = .ok (.iconst 0, 1) := by decide +kernel
theorem dL_law__1023 : decode cL_law_ 1023 = .ok (.ireturn, 1) := by decide +kernel
theorem dL_law__1024 : decode cL_law_ 1024 = .ok (.goto 1045, 3) := by decide +kernel
theorem dL_law__1027 : decode cL_law_ 1027 = .ok (.aload_n 1, 1) := by decide +kernel
theorem dL_law__1028 : decode cL_law_ 1028 = .ok (.aload_n 0, 1) := by decide +kernel
theorem dL_law__1029 : decode cL_law_ 1029 = .ok (.iload 4, 2) := by decide +kernel
theorem dL_law__1031 : decode cL_law_ 1031 = .ok (.iconst 1, 1) := by decide +kernel
theorem dL_law__1032 : decode cL_law_ 1032 = .ok (.iadd, 1) := by decide +kernel
theorem dL_law__1033 : decode cL_law_ 1033 = .ok (.iaload, 1) := by decide +kernel
theorem dL_law__1034 : decode cL_law_ 1034 = .ok (.aload_n 0, 1) := by decide +kernel
theorem dL_law__1035 : decode cL_law_ 1035 = .ok (.iload 4, 2) := by decide +kernel
theorem dL_law__1037 : decode cL_law_ 1037 = .ok (.iconst 2, 1) := by decide +kernel
theorem dL_law__1038 : decode cL_law_ 1038 = .ok (.iadd, 1) := by decide +kernel
theorem dL_law__1039 : decode cL_law_ 1039 = .ok (.iaload, 1) := by decide +kernel
theorem dL_law__1040 : decode cL_law_ 1040 = .ok (.aload_n 0, 1) := by decide +kernel
theorem dL_law__1041 : decode cL_law_ 1041 = .ok (.iload 4, 2) := by decide +kernel
theorem dL_law__1043 : decode cL_law_ 1043 = .ok (.iconst 3, 1) := by decide +kernel
theorem dL_law__1044 : decode cL_law_ 1044 = .ok (.iadd, 1) := by decide +kernel
theorem dL_law__1045 : decode cL_law_ 1045 = .ok (.iaload, 1) := by decide +kernel
theorem dL_law__1046 : decode cL_law_ 1046 = .ok (.aload_n 3, 1) := by decide +kernel
theorem dL_law__1047 : decode cL_law_ 1047 = .ok (.invokestatic 149, 3) := by decide +kernel
theorem dL_law__1050 : decode cL_law_ 1050 = .ok (.istore 5, 2) := by decide +kernel
theorem dL_law__1052 : decode cL_law_ 1052 = .ok (.aload_n 2, 1) := by decide +kernel
theorem dL_law__1053 : decode cL_law_ 1053 = .ok (.aload_n 0, 1) := by decide +kernel
theorem dL_law__1054 : decode cL_law_ 1054 = .ok (.iload 4, 2) := by decide +kernel
theorem dL_law__1056 : decode cL_law_ 1056 = .ok (.iconst 1, 1) := by decide +kernel
theorem dL_law__1057 : decode cL_law_ 1057 = .ok (.iadd, 1) := by decide +kernel
theorem dL_law__1058 : decode cL_law_ 1058 = .ok (.iaload, 1) := by decide +kernel
theorem dL_law__1059 : decode cL_law_ 1059 = .ok (.aload_n 0, 1) := by decide +kernel
theorem dL_law__1060 : decode cL_law_ 1060 = .ok (.iload 4, 2) := by decide +kernel
theorem dL_law__1062 : decode cL_law_ 1062 = .ok (.iconst 2, 1) := by decide +kernel
theorem dL_law__1063 : decode cL_law_ 1063 = .ok (.iadd, 1) := by decide +kernel
theorem dL_law__1064 : decode cL_law_ 1064 = .ok (.iaload, 1) := by decide +kernel
theorem dL_law__1065 : decode cL_law_ 1065 = .ok (.aload_n 0, 1) := by decide +kernel
theorem dL_law__1066 : decode cL_law_ 1066 = .ok (.iload 4, 2) := by decide +kernel
theorem dL_law__1068 : decode cL_law_ 1068 = .ok (.iconst 3, 1) := by decide +kernel
theorem dL_law__1069 : decode cL_law_ 1069 = .ok (.iadd, 1) := by decide +kernel
theorem dL_law__1070 : decode cL_law_ 1070 = .ok (.iaload, 1) := by decide +kernel
theorem dL_law__1071 : decode cL_law_ 1071 = .ok (.invokevirtual 151, 3) := by decide +kernel
theorem dL_law__1074 : decode cL_law_ 1074 = .ok (.istore 6, 2) := by decide +kernel
theorem dL_law__1076 : decode cL_law_ 1076 = .ok (.aload_n 2, 1) := by decide +kernel
theorem dL_law__1077 : decode cL_law_ 1077 = .ok (.invokevirtual 104, 3) := by decide +kernel
theorem dL_law__1080 : decode cL_law_ 1080 = .ok (.iload 5, 2) := by decide +kernel
theorem dL_law__1082 : decode cL_law_ 1082 = .ok (.if_icmp .eq 5, 3) := by decide +kernel
theorem dL_law__1085 : decode cL_law_ 1085 = .ok (.iconst 0, 1) := by decide +kernel
theorem dL_law__1086 : decode cL_law_ 1086 = .ok (.ireturn, 1) := by decide +kernel
theorem dL_law__1087 : decode cL_law_ 1087 = .ok (.iload 5, 2) := by decide +kernel
theorem dL_law__1089 : decode cL_law_ 1089 = .ok (.ifCond .ne 15, 3) := by decide +kernel
theorem dL_law__1092 : decode cL_law_ 1092 = .ok (.aload_n 3, 1) := by decide +kernel
theorem dL_law__1093 : decode cL_law_ 1093 = .ok (.iconst 0, 1) := by decide +kernel
theorem dL_law__1094 : decode cL_law_ 1094 = .ok (.laload, 1) := by decide +kernel
theorem dL_law__1095 : decode cL_law_ 1095 = .ok (.iload 6, 2) := by decide +kernel
theorem dL_law__1097 : decode cL_law_ 1097 = .ok (.i2l, 1) := by decide +kernel
theorem dL_law__1098 : decode cL_law_ 1098 = .ok (.lcmp, 1) := by decide +kernel
theorem dL_law__1099 : decode cL_law_ 1099 = .ok (.ifCond .eq 5, 3) := by decide +kernel
theorem dL_law__1102 : decode cL_law_ 1102 = .ok (.iconst 0, 1) := by decide +kernel
theorem dL_law__1103 : decode cL_law_ 1103 = .ok (.ireturn, 1) := by decide +kernel
theorem dL_law__1104 : decode cL_law_ 1104 = .ok (.goto 965, 3) := by decide +kernel
theorem dL_law__1107 : decode cL_law_ 1107 = .ok (.aload_n 1, 1) := by decide +kernel
theorem dL_law__1108 : decode cL_law_ 1108 = .ok (.aload_n 0, 1) := by decide +kernel

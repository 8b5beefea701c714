theorem dL_law_1757 : decode cL_law 1757 = .ok (.lcmp, 1) := by decide +kernel
theorem dL_law_1758 : decode cL_law 1758 = .ok (.ifCond .eq 5, 3) := by decide +kernel
theorem dL_law_1761 : decode cL_law 1761 = .ok (.iconst 0, 1) := by decide +kernel
theorem dL_law_1762 : decode cL_law 1762 = .ok (.ireturn, 1) := by decide +kernel
theorem dL_law_1763 : decode cL_law 1763 = .ok (.goto 71, 3) := by decide +kernel
theorem dL_law_1766 : decode cL_law 1766 = .ok (.aload_n 1, 1) := by decide +kernel
theorem dL_law_1767 : decode cL_law 1767 = .ok (.invokevirtual 184, 3) := by decide +kernel
theorem dL_law_1770 : decode cL_law 1770 = .ok (.aload_n 2, 1) := by decide +kernel
theorem dL_law_1771 : decode cL_law 1771 = .ok (.invokevirtual 187, 3) := by decide +kernel
theorem dL_law_1774 : decode cL_law 1774 = .ok (.if_icmp .eq 60, 3) := by decide +kernel
theorem dL_law_1777 : decode cL_law 1777 = .ok (.iconst 0, 1) := by decide +kernel
theorem dL_law_1778 : decode cL_law 1778 = .ok (.ireturn, 1) := by decide +kernel
theorem dL_law_1779 : decode cL_law 1779 = .ok (.aload_n 1, 1) := by decide +kernel
theorem dL_law_1780 : decode cL_law 1780 = .ok (.invokevirtual 188, 3) := by decide +kernel
theorem dL_law_1783 : decode cL_law 1783 = .ok (.dstore 5, 2) := by decide +kernel
theorem dL_law_1785 : decode cL_law 1785 = .ok (.aload_n 2, 1) := by decide +kernel
theorem dL_law_1786 : decode cL_law 1786 = .ok (.invokevirtual 192, 3) := by decide +kernel
theorem dL_law_1789 : decode cL_law 1789 = .ok (.dstore 7, 2) := by decide +kernel
theorem dL_law_1791 : decode cL_law 1791 = .ok (.dload 5, 2) := by decide +kernel
theorem dL_law_1793 : decode cL_law 1793 = .ok (.dload 7, 2) := by decide +kernel
theorem dL_law_1795 : decode cL_law 1795 = .ok (.dcmp .l, 1) := by decide +kernel
theorem dL_law_1796 : decode cL_law 1796 = .ok (.ifCond .eq 21, 3) := by decide +kernel
theorem dL_law_1799 : decode cL_law 1799 = .ok (.dload 5, 2) := by decide +kernel
theorem dL_law_1801 : decode cL_law 1801 = .ok (.dload 5, 2) := by decide +kernel
theorem dL_law_1803 : decode cL_law 1803 = .ok (.dcmp .l, 1) := by decide +kernel
theorem dL_law_1804 : decode cL_law 1804 = .ok (.ifCond .eq 11, 3) := by decide +kernel
theorem dL_law_1807 : decode cL_law 1807 = .ok (.dload 7, 2) := by decide +kernel
theorem dL_law_1809 : decode cL_law 1809 = .ok (.dload 7, 2) := by decide +kernel
theorem dL_law_1811 : decode cL_law 1811 = .ok (.dcmp .l, 1) := by decide +kernel
theorem dL_law_1812 : decode cL_law 1812 = .ok (.ifCond .ne 5, 3) := by decide +kernel
theorem dL_law_1815 : decode cL_law 1815 = .ok (.iconst 0, 1) := by decide +kernel
theorem dL_law_1816 : decode cL_law 1816 = .ok (.ireturn, 1) := by decide +kernel
theorem dL_law_1817 : decode cL_law 1817 = .ok (.goto 17, 3) := by decide +kernel
theorem dL_law_1820 : decode cL_law 1820 = .ok (.aload_n 1, 1) := by decide +kernel
theorem dL_law_1821 : decode cL_law 1821 = .ok (.invokevirtual 193, 3) := by decide +kernel
theorem dL_law_1824 : decode cL_law 1824 = .ok (.aload_n 2, 1) := by decide +kernel
theorem dL_law_1825 : decode cL_law 1825 = .ok (.invokevirtual 197, 3) := by decide +kernel
theorem dL_law_1828 : decode cL_law 1828 = .ok (.lcmp, 1) := by decide +kernel
theorem dL_law_1829 : decode cL_law 1829 = .ok (.ifCond .eq 5, 3) := by decide +kernel
theorem dL_law_1832 : decode cL_law 1832 = .ok (.iconst 0, 1) := by decide +kernel
theorem dL_law_1833 : decode cL_law 1833 = .ok (.ireturn, 1) := by decide +kernel
theorem dL_law_1834 : decode cL_law 1834 = .ok (.iinc 4 4, 3) := by decide +kernel
theorem dL_law_1837 : decode cL_law 1837 = .ok (.goto (-1814), 3) := by decide +kernel
theorem dL_law_1840 : decode cL_law 1840 = .ok (.iconst 1, 1) := by decide +kernel
theorem dL_law_1841 : decode cL_law 1841 = .ok (.ireturn, 1) := by decide +kernel

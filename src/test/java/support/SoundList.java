/** What the document's list calls sound, row by row as it stands there. */
public final class SoundList {
    // ops | sizes | x | y | third: n nothing, r register, 1 the register 1, m memory, i a number
    public static final String[] ROWS = {
        "0-10,48-49|1,4,8|rm|r|n", "0-8|1,4,8|r|m|n", "0-9|1,4,8|rm|i|n",
        "11|4,8|r|m|n", "12-13|4,8|r|rm|n", "14|8|r|rm|n", "15-22|1,4,8|rm|n|n",
        "23|4,8|r|rm|ni", "24-28|1,4,8|rm|1i|n", "29|8|rmi|n|n", "30|8|rm|n|n",
        "31-32|0|rmi|n|n", "33|0|ni|n|n", "34|0|i|n|n", "35|1|rm|n|n", "36|4,8|r|rm|n",
        "37-38|4,8|n|n|n", "39-43|0|n|n|n", "44-45|4,8|r|rm|n", "46|4,8|r|n|n",
        "47|4,8|rm|ri|n", "50-53|1,4,8|n|n|n"
    };

    private SoundList() {
    }

    private static boolean inRanges(String ranges, int v) {
        for (String range : ranges.split(",")) {
            String[] ends = range.split("-");
            int from = Integer.parseInt(ends[0]);
            int to = Integer.parseInt(ends[ends.length - 1]);
            if (v >= from && v <= to) {
                return true;
            }
        }
        return false;
    }

    private static boolean kindIn(String kinds, int kind, int register) {
        if (kind == Rig.REGISTER) {
            return kinds.indexOf('r') >= 0 || (kinds.indexOf('1') >= 0 && register == 1);
        }
        return kinds.indexOf("n.mi".charAt(kind)) >= 0;
    }

    /** Whether op, size and operands stand in the list. */
    public static boolean has(int op, int size, int[] kinds, int[] registers) {
        for (String row : ROWS) {
            String[] parts = row.split("\\|");
            boolean fits = op >= 0 && size >= 0 && inRanges(parts[0], op) && inRanges(parts[1], size);
            for (int k = 0; k < 3; k++) {
                fits = fits && kindIn(parts[2 + k], kinds[k], registers[k]);
            }
            if (fits) {
                return true;
            }
        }
        return false;
    }

    public static boolean conditionFits(int op, int condition) {
        return condition == 0 || (op >= 34 && op <= 36 && condition > 0 && condition <= 15);
    }

    public static boolean numberFits(int op, int size, long v) {
        long low = Integer.MIN_VALUE;
        long high = Integer.MAX_VALUE;
        if ((op >= 24 && op <= 28) || op == 47) {
            low = 0;
            high = 255;
        } else if (op == 33) {
            low = 0;
            high = 65535;
        } else if (size == 1) {
            low = -128;
            high = 127;
        } else if (op == 8 && size == 8) {
            low = Long.MIN_VALUE;
            high = Long.MAX_VALUE;
        }
        return v >= low && v <= high;
    }

    public static boolean memoryFits(int base, int index, int scale) {
        boolean fits = base >= -1 && base <= 16 && index >= -1 && index <= 15 && index != 4;
        fits = fits && (scale == 1 || scale == 2 || scale == 4 || scale == 8);
        return fits && !(base == 16 && index != -1) && !(index == -1 && scale != 1);
    }
}

/** CELLS as texts of 0 and 1, told from the document's words and not by the class. */
final class Cells {
    static final String MARK = "1000010001";

    private static final String[] GROUPS = {
        "01010", "01011", "10010", "10011", "01110", "01111", "10110", "10111",
        "01001", "11001", "11010", "11011", "01101", "11101", "11110", "10101",
    };

    private Cells() {
    }

    static String group(int half) {
        return GROUPS[half];
    }

    /** BYTES by CODE 2. */
    static String grouped(int... values) {
        StringBuilder made = new StringBuilder();
        for (int value : values) {
            made.append(GROUPS[value / 16]).append(GROUPS[value % 16]);
        }
        return made.toString();
    }

    private static String bitsOf(int... values) {
        StringBuilder made = new StringBuilder();
        for (int value : values) {
            made.append(Integer.toBinaryString(256 + value).substring(1));
        }
        return made.toString();
    }

    /** BYTES by CODE 0. */
    static String paired(int... values) {
        return bitsOf(values).replace("0", "x").replace("1", "11").replace("x", "10");
    }

    /** BYTES by CODE 1, behind a BIT. */
    static String clocked(int ahead, int... values) {
        StringBuilder made = new StringBuilder();
        char before = ahead == 0 ? '0' : '1';
        for (char bit : bitsOf(values).toCharArray()) {
            made.append(bit == '0' && before == '0' ? '1' : '0').append(bit);
            before = bit;
        }
        return made.toString();
    }

    /** BYTES by a CODE, just behind a MARK. */
    static String byCode(int code, int... values) {
        return code == 0 ? paired(values) : code == 1 ? clocked(0, values) : grouped(values);
    }

    /** How many CELLS a BYTE has. */
    static int ofByte(int code) {
        return code == 2 ? 10 : 16;
    }

    /** How many CELLS a SECTOR of so many BYTES has. */
    static int ofSector(int code, int count) {
        return 10 + (3 + count) * ofByte(code) + 1;
    }

    /** A group that has a 1 wherever the five CELLS have one. */
    static int halfOver(String cells) {
        for (int half = 0; half < GROUPS.length; half++) {
            boolean isOver = true;
            for (int i = 0; i < 5; i++) {
                isOver &= cells.charAt(i) == '0' || GROUPS[half].charAt(i) == '1';
            }
            if (isOver) {
                return half;
            }
        }
        throw new IllegalArgumentException("no BYTE of CODE 2 can be made " + cells);
    }

    static boolean isGroup(String cells) {
        for (String group : GROUPS) {
            if (group.equals(cells)) {
                return true;
            }
        }
        return false;
    }
}

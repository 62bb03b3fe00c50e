/** Tapes and programs that are long, made with few calls. */
final class Rows {
    /** The node of Rows.pairs() whose value has a text of 8189 bytes. */
    static final int PAIRS = 11;

    private Rows() {
    }

    /** Node i is a pair of node i - 1 with itself, node 0 gives nothing: 2^i Us, 4 * 2^i - 3 bytes. */
    static String[] pairNodes(int count) {
        String[] told = new String[count];
        told[0] = "8";
        for (int i = 1; i < count; i++) {
            told[i] = "2 1 1";
        }
        return told;
    }

    static House pairs() {
        return House.ofBits(Bits.program(pairNodes(PAIRS + 1)));
    }

    /** 2046 or 2048 Us: a tape of 8181 or 8189 bytes. */
    static House tapeOf(int bytes) {
        House x;
        int last;
        if (bytes == 8189) {
            x = pairs();
            last = PAIRS;
        } else {
            // x1 .. x10 have 2 .. 1024 Us; all of these together have 2046
            String[] told = new String[20];
            System.arraycopy(pairNodes(11), 0, told, 0, 11);
            told[11] = "2 1 2";
            for (int i = 12; i < 20; i++) {
                told[i] = "2 1 " + (2 * i - 20);
            }
            x = House.ofBits(Bits.program(told));
            last = 19;
        }
        Checks.due("value", x.value(last, true), bytes);
        Checks.due("again", x.again(), bytes);
        return x;
    }

    /** A WITNESS of 64 bits, doubled so often, whose bits are all inverted. */
    static String[] wideWitness(int times) {
        String[] told = new String[3 * times + 3];
        told[0] = "10";
        told[1] = "12 95";
        for (int i = 0; i < times; i++) {
            told[2 + 3 * i] = "5 1";
            told[3 + 3 * i] = "6 2";
            told[4 + 3 * i] = "2 2 1";
        }
        told[3 * times + 2] = "0 " + (3 * times + 2) + " 1";
        return told;
    }

    /** A program of so many steps, of PAIRs and TAKEs, that needs no cells. */
    static String steps(long wanted) {
        java.util.List<String> told = new java.util.ArrayList<>();
        long rest = wanted;
        while (rest > 1) {
            told.add(0, rest % 2 == 0 ? "5 1" : "2 1 1");
            rest = rest % 2 == 0 ? rest - 1 : (rest - 1) / 2;
        }
        told.add(0, "8");
        return Bits.program(told.toArray(new String[0]));
    }

    private static final String WIDE_ROW = "1001110" + "10".repeat(1020) + "1";

    /** A speech of a PAIR of PAIRs and so on of WITNESS nodes with 2048 bits each; y1, y2 .. are these PAIRs. */
    static String rowsOf(int count, String behind) {
        StringBuilder s = new StringBuilder("f0=jet 95 ");
        for (int i = 1; i <= 5; i++) {
            s.append("f").append(i).append("=pair take f").append(i - 1).append(" drop f").append(i - 1).append(" ");
        }
        s.append("w=comp (comp witness ").append(WIDE_ROW).append(" f5) unit y0=unit ");
        for (int i = 1; i <= count; i++) {
            s.append("y").append(i).append("=pair y").append(i - 1).append(" new w ");
        }
        return s + behind;
    }

    /** The same with 64 of these, by copies of copies: 16 K bytes. */
    static String rowsDoubled() {
        return rowsOf(1, "p=pair new w new w q=pair p new p r=pair q new q s=pair r new r t=pair s new s u=pair t new t ");
    }

    /** A speech of a program that has a text of so many bytes, from 8170 on: each LEFT more has 6 bits. */
    static String speechOf(int bytes) {
        for (int lefts = (bytes - 8164) * 8 / 6; lefts < 100 + bytes - 8164; lefts++) {
            String speech = rowsOf(31, "z=" + "left ".repeat(lefts) + "y31");
            if (new Oracle().sizeOf(Checks.bytes(speech)) == bytes) {
                return speech;
            }
        }
        Checks.due("a speech of " + bytes, false);
        return "";
    }

    /** A program of 400 nodes that has a speech of so many bytes, some 8192: a RIGHT is one longer than a LEFT. */
    static String spoken(int bytes) {
        for (int pairs = 399; pairs > 0; pairs--) {
            int size = 10;
            String[] told = new String[400];
            told[0] = "8";
            for (int i = 1; i < 400; i++) {
                told[i] = i <= pairs ? "2 1 1" : "3 1";
                size += line(i, i <= pairs).length();
            }
            int rights = bytes - size;
            if (rights >= 0 && rights <= 399 - pairs) {
                for (int i = 0; i < rights; i++) {
                    told[399 - i] = "4 1";
                }
                return Bits.program(told);
            }
        }
        Checks.due("a program of " + bytes, false);
        return Bits.program("8");
    }

    private static String line(int i, boolean pair) {
        return "n" + i + (pair ? " = pair n" + (i - 1) + " n" : " = left n") + (i - 1) + "\n";
    }
}

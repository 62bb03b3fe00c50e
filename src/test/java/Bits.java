import java.math.BigInteger;

/** Programs as texts of 0s and 1s. */
final class Bits {
    private Bits() {
    }

    static String natural(long n) {
        return Oracle.naturalBits(n);
    }

    static String number(long n, int bits) {
        return Oracle.binary(BigInteger.valueOf(n), bits);
    }

    /**
     * N and the nodes: "12 5" is a JET; "0 2 1" a COMP of what stands two and one ahead; "11" a HIDDEN
     * of 0s, "11 1" one of 1s, "11 7" one that ends in the number 7.
     */
    static String nodes(String... told) {
        StringBuilder s = new StringBuilder(natural(told.length));
        for (String t : told) {
            s.append(node(t));
        }
        return s.toString();
    }

    static String node(String told) {
        String[] w = told.split(" ");
        StringBuilder s = new StringBuilder(number(Integer.parseInt(w[0]), 5));
        if (w[0].equals("11")) {
            int n = w.length > 1 ? Integer.parseInt(w[1]) : 0;
            s.append(n == 1 ? "1".repeat(256) : number(n, 256));
        } else if (w[0].equals("12")) {
            s.append(number(Integer.parseInt(w[1]), 8));
        } else {
            for (int i = 1; i < w.length; i++) {
                s.append(natural(Long.parseLong(w[i])));
            }
        }
        return s.toString();
    }

    /** A program without a witness. */
    static String program(String... told) {
        return nodes(told) + "0";
    }

    /** A program with these bits as its witness. */
    static String witnessed(String witness, String... told) {
        return nodes(told) + natural(witness.length() + 1L) + witness;
    }
}
